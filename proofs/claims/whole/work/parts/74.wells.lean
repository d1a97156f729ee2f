/-! THE CALLS: wells -/
section
variable {xs : List Int} {d : Nat} {M : z_M}
theorem s_wl {P : Option z_V → z_L → z_M → Prop} {n : Nat} {s w : Nat → Int} (hF : z_fix M) (hn : M 321 48 = (n : Int)) (h6 : n ≤ 6) (hs : ∀ f : Nat, f < n → s f = M 339 f ∧ 1 ≤ s f ∧ s f ≤ 9) (hw : ∀ f : Nat, f < n → w f = if M 342 (12 + f) < 0 then M 339 f else 1) : ∀ (l : List (List Nat)) (p : List Nat) (a : Int × List Nat) (M' : z_M) (w3 w4 : z_V), z_chn (p :: l) = true → (∀ q, q ∈ p :: l → q.Perm (List.range n)) → (∀ c, c ≠ 347 → c ≠ 348 → M' c = M c) → z_rw (M' 348) p → (a.1 < 1000000 → ∀ i : Nat, i < n → M' 347 i = (a.2.getD i 0 : Nat)) → (∀ M2 : z_M, (∀ c, c ≠ 347 → c ≠ 348 → M2 c = M c) → ((z_fm (z_ct s w) a (p :: l)).1 < 1000000 → ∀ i : Nat, i < n → M2 347 i = ((z_fm (z_ct s w) a (p :: l)).2.getD i 0 : Nat)) → P (some (0, (z_fm (z_ct s w) a (p :: l)).1)) z_LL (z_up M2 321 68 (M2 321 48))) → wp xs (d + 3) mX10_wells 29 [(2, 321), (0, a.1), (0, 1), w3, w4] [] z_LL M' P := by
  have stp : ∀ (p : List Nat) (a : Int × List Nat) (M' : z_M) (w3 w4 : z_V), p.Perm (List.range n) → (∀ c, c ≠ 347 → c ≠ 348 → M' c = M c) → z_rw (M' 348) p → (a.1 < 1000000 → ∀ i : Nat, i < n → M' 347 i = (a.2.getD i 0 : Nat)) → (∀ (a' : Int × List Nat) (M2 : z_M) (x3 : Int) (w4 : z_V), a' = (if z_ct s w p < a.1 then (z_ct s w p, p) else a) → (∀ c, c ≠ 347 → c ≠ 348 → M2 c = M c) → z_rw (M2 348) p → (a'.1 < 1000000 → ∀ i : Nat, i < n → M2 347 i = (a'.2.getD i 0 : Nat)) → wp xs (d + 2) mX10_nextOrder 0 [(2, 321), (3, 0), (3, 0), (3, 0), (3, 0)] [] z_LL M2 (fun r L1 M1 => wp xs (d + 3) mX10_wells 81 [(2, 321), (0, a'.1), (0, 1), (0, x3), w4] (z_ol r ++ []) L1 M1 P)) → wp xs (d + 3) mX10_wells 29 [(2, 321), (0, a.1), (0, 1), w3, w4] [] z_LL M' P := by
    intro p a M' w3 w4 hp hM hr ha K
    have hl : p.length = n := by rw [hp.length_eq, List.length_range]
    have hF' : z_fix M' := z_fix_eq hF (fun q hq => hM q (fun e => z_nf347 (e ▸ hq)) (fun e => z_nf348 (e ▸ hq)))
    have hpi : ∀ i : Nat, i < n → p.getD i 0 < n := fun i hi => by
      have eg : p.getD i 0 = p[i]'(by omega) := by
        rw [List.getD_eq_getElem?_getD, List.getElem?_eq_getElem (by omega)]
        rfl
      rw [eg]
      exact List.mem_range.mp (hp.mem_iff.mp (List.getElem_mem _))
    refine gX10_wells_29 (x2 := 1) (fun q => by omega) (fun _ => ?_)
    refine s_X10_lossOf (s := s) (w := w) hF' (by rw [hM 321 (by decide) (by decide)]; exact hn) h6 hl hpi hr (by rw [hM 339 (by decide) (by decide)]; exact hs) (by rw [hM 339 (by decide) (by decide), hM 342 (by decide) (by decide)]; exact hw) ?_
    refine gX10_wells_37 (fun c => ?_) (fun c => ?_)
    · exact K a M' _ _ (by rw [if_neg (by omega)]) hM hr ha
    · refine z_loop (W := fun i => ∀ M2 : z_M, (∀ c, c ≠ 347 → c ≠ 348 → M2 c = M c) → z_rw (M2 348) p → (∀ j : Nat, j < i → M2 347 j = (p.getD j 0 : Nat)) → wp xs (d + 3) mX10_wells 48 [(2, 321), (0, z_ct s w p), (0, 1), (0, z_ct s w p), (0, (i : Int))] [] z_LL M2 P) n (fun i hi ih M2 hM2 hr2 hv => ?_) M' hM hr (fun j q => absurd q (by omega))
      have g := gX10_wells_48 (M := M2) (xs := xs) (d := d + 2) (P := P) (x1 := z_ct s w p) (x2 := 1) (x3 := z_ct s w p) (x4 := (i : Int)) (z_fix_eq hF (fun q hq => hM2 q (fun e => z_nf347 (e ▸ hq)) (fun e => z_nf348 (e ▸ hq))))
      rw [hM2 321 (by decide) (by decide), hn, z_in1 (by omega)] at g
      refine g (fun c2 => ?_) (fun _ => by omega) (fun c2 => ?_)
      · exact K (z_ct s w p, p) M2 _ _ (by rw [if_pos (by omega)]) hM2 hr2 (fun _ j hj => hv j (by omega))
      · refine ih (by omega) _ (fun c h1 h2 => by rw [z_upn h1, hM2 c h1 h2]) (by rw [z_upn (by decide)]; exact hr2) (fun j hj => ?_)
        by_cases e : j = i
        · rw [e, z_ups, hr2 i (by omega)]
        · rw [z_upi (by omega) rfl, hv j (by omega)]
  intro l
  induction l with
  | nil =>
    intro p a M' w3 w4 hc hp hM hr ha kk
    refine stp p a M' w3 w4 (hp p List.mem_cons_self) hM hr ha (fun a' M2 x3 w4 ea hM2 hr2 ha2 => ?_)
    have hl : p.length = n := by rw [(hp p List.mem_cons_self).length_eq, List.length_range]
    have hx : z_nx p = none := of_decide_eq_true hc
    rw [z_fm, ← ea, z_fm] at kk
    refine s_X10_nextOrder (z_fix_eq hF (fun q hq => hM2 q (fun e => z_nf347 (e ▸ hq)) (fun e => z_nf348 (e ▸ hq)))) (by rw [hM2 321 (by decide) (by decide)]; exact hn) h6 hl hr2 (fun _ => ?_) (fun q M3 e => ?_)
    · refine gX10_wells_81 ?_
      exact gX10_wells_29 (fun _ => kk M2 hM2 ha2) (fun q => absurd rfl q)
    · rw [hx] at e
      exact absurd e (by simp)
  | cons q l ih =>
    intro p a M' w3 w4 hc hp hM hr ha kk
    refine stp p a M' w3 w4 (hp p List.mem_cons_self) hM hr ha (fun a' M2 x3 w4 ea hM2 hr2 ha2 => ?_)
    have hl : p.length = n := by rw [(hp p List.mem_cons_self).length_eq, List.length_range]
    have hc2 : (decide (z_nx p = some q) && z_chn (q :: l)) = true := hc
    rw [Bool.and_eq_true, decide_eq_true_eq] at hc2
    rw [z_fm, ← ea] at kk
    refine s_X10_nextOrder (z_fix_eq hF (fun q hq => hM2 q (fun e => z_nf347 (e ▸ hq)) (fun e => z_nf348 (e ▸ hq)))) (by rw [hM2 321 (by decide) (by decide)]; exact hn) h6 hl hr2 (fun e => ?_) (fun q' M3 e hM3 hr3 => ?_)
    · rw [hc2.1] at e
      exact absurd e (by simp)
    · rw [hc2.1] at e
      injection e with e
      refine gX10_wells_81 ?_
      refine ih q a' M3 _ _ hc2.2 (fun r hr => hp r (List.mem_cons_of_mem _ hr)) (fun c h1 h2 => by rw [hM3 c h2, hM2 c h1 h2]) (by rw [e]; exact hr3) (by rw [hM3 347 (by decide)]; exact ha2) kk
theorem s_X10_wells {P : Option z_V → z_L → z_M → Prop} {n : Nat} {s w h : Nat → Int} {r : List Nat} (hF : z_fix M) (hn : M 321 48 = (n : Int)) (h6 : n ≤ 6) (hs : ∀ f : Nat, f < n → s f = M 339 f ∧ 1 ≤ s f ∧ s f ≤ 9) (hw : ∀ f : Nat, f < n → w f = if M 342 (12 + f) < 0 then M 339 f else 1) (hh : ∀ y : Nat, y < n → s y = h y * w y ∧ 0 < w y) (hr : r.Perm (List.range n)) (hp : r.Pairwise (z_wr h)) (hc : z_ct s w r < 1000000) (k : ∀ M2 : z_M, (∀ c, c ≠ 347 → c ≠ 348 → M2 c = M c) → (∀ i : Nat, i < n → M2 347 i = (r.getD i 0 : Nat)) → P (some (0, z_ct s w r)) z_LL (z_up M2 321 68 (M2 321 48))) : wp xs (d + 3) mX10_wells 0 [(2, 321), (3, 0), (3, 0), (3, 0), (3, 0)] [] z_LL M P := by
  obtain ⟨c1, c2⟩ := z_chn_6 n (by omega)
  have hall := z_lxp_p n (List.range n) List.length_range
  have hb := z_best hh hr hp (1000000, []) hc
  cases hL : z_lxp n (List.range n) with
  | nil =>
    rw [hL] at c2
    exact absurd c2 (by simp)
  | cons p l =>
    rw [hL] at c1 c2 hall hb
    have ep : p = List.range n := by
      injection c2
    refine gX10_wells_0 ?_
    refine z_loop (W := fun i => ∀ M2 : z_M, (∀ c, c ≠ 348 → M2 c = M c) → (∀ j : Nat, j < i → M2 348 j = j) → wp xs (d + 3) mX10_wells 2 [(2, 321), (0, (i : Int)), (3, 0), (3, 0), (3, 0)] [] z_LL M2 P) n (fun i hi ih M2 hM hv => ?_) M (fun _ _ => rfl) (fun j q => absurd q (by omega))
    have g := gX10_wells_2 (M := M2) (xs := xs) (d := d + 3) (P := P) (x1 := (i : Int)) (z_fix_at hF hM z_nf348)
    rw [hM 321 (by decide), hn, z_in1 (by omega)] at g
    refine g (fun c => ?_) (fun _ => by omega) (fun c => ?_)
    · refine s_wl hF hn h6 hs hw l p (1000000, []) M2 _ _ c1 hall (fun c _ h2 => hM c h2) (fun j hj => ?_) (fun q => absurd q (by decide)) (fun M3 hM3 hv3 => ?_)
      · rw [ep, List.length_range] at hj
        rw [hv j (by omega), ep, List.getD_eq_getElem?_getD, List.getElem?_range hj]
        rfl
      · rw [hb] at hv3 ⊢
        exact k M3 hM3 (hv3 hc)
    · refine ih (by omega) _ (fun c hc => by rw [z_upn hc, hM c hc]) (fun j hj => ?_)
      by_cases e : j = i
      · rw [e, z_ups]
      · rw [z_upi (by omega) rfl, hv j (by omega)]
end
