/-! THE CALLS: lead -/
def z_bg (C own : Int) (g : Int → Int) : Nat → Int × Int
  | 0 => (g own, own)
  | c + 1 => if z_far C own c = 1 ∧ (z_bg C own g c).1 < g c then (g c, (c : Int)) else z_bg C own g c
section
variable {C R own : Int} {g : Int → Int}
theorem z_bg_y {c : Nat} (h1 : z_far C own c = 1) (h2 : (z_bg C own g c).1 < g c) : z_bg C own g (c + 1) = (g c, (c : Int)) := by
  rw [z_bg, if_pos ⟨h1, h2⟩]
theorem z_bg_n {c : Nat} (h : ¬ (z_far C own c = 1 ∧ (z_bg C own g c).1 < g c)) : z_bg C own g (c + 1) = z_bg C own g c := by
  rw [z_bg, if_neg h]
theorem z_bg_sk {a : Nat} : ∀ b : Nat, a ≤ b → (∀ x : Nat, a ≤ x → x < b → z_far C own x ≠ 1) → z_bg C own g b = z_bg C own g a
  | 0, h, _ => by
    have : a = 0 := by omega
    rw [this]
  | b + 1, h, hx => by
    by_cases e : a = b + 1
    · rw [e]
    · rw [z_bg_n (fun q => hx b (by omega) (by omega) q.1)]
      exact z_bg_sk b (by omega) (fun x h1 h2 => hx x h1 (by omega))
def z_wgs (g : Int → Int) (t : Int × Int) (p : Int) : Int × Int := if p ≠ -1 ∧ t.1 < g p then (g p, p) else t
theorem z_wgs_y {t : Int × Int} {p : Int} (h : p ≠ -1) (h2 : t.1 < g p) : z_wgs g t p = (g p, p) := by
  unfold z_wgs
  rw [if_pos ⟨h, h2⟩]
theorem z_wgs_n {t : Int × Int} {p : Int} (h : ¬ (p ≠ -1 ∧ t.1 < g p)) : z_wgs g t p = t := by
  unfold z_wgs
  rw [if_neg h]
theorem z_bg_w {a b : Nat} {p : Int} (hab : a ≤ b) (hp : p ≠ -1 → (a : Int) ≤ p ∧ p < b) (hx : ∀ x : Nat, a ≤ x → x < b → (z_far C own x = 1 ↔ (x : Int) = p)) : z_bg C own g b = z_wgs g (z_bg C own g a) p := by
  by_cases e : p = -1
  · rw [z_wgs_n (fun q => q.1 e)]
    exact z_bg_sk b hab (fun x h1 h2 q => by
      have := (hx x h1 h2).mp q
      omega)
  · have hr := hp e
    obtain ⟨q, rfl⟩ : ∃ q : Nat, p = q := ⟨p.toNat, by omega⟩
    have e1 : z_bg C own g b = z_bg C own g (q + 1) := z_bg_sk b (by omega) (fun x h1 h2 h => by
      have := (hx x (by omega) h2).mp h
      omega)
    have e2 : z_bg C own g q = z_bg C own g a := z_bg_sk q (by omega) (fun x h1 h2 h => by
      have := (hx x h1 (by omega)).mp h
      omega)
    rw [e1]
    have hq := (hx q (by omega) (by omega)).mpr rfl
    by_cases c : (z_bg C own g a).1 < g q
    · rw [z_wgs_y e c, z_bg_y hq (by rw [e2]; exact c)]
    · rw [z_wgs_n (fun w => c w.2), z_bg_n (fun w => c (by rw [← e2]; exact w.2)), e2]
def z_wg (C R own : Int) (g : Int → Int) : Nat → Int × Int
  | 0 => (g own, own)
  | w + 1 => z_wgs g (z_wg C R own g w) (z_nb C R own w)
theorem z_wg_b (hC1 : 2 ≤ C ∧ C ≤ 5) (hR1 : 2 ≤ R ∧ R ≤ 5) (hx : 4 ≤ C * R ∧ C * R ≤ 25) (h : 0 ≤ own ∧ own < C * R) : z_wg C R own g 4 = z_bg C own g (C * R).toNat := by
  obtain ⟨r0, r3, r1, r2⟩ := z_nbr hC1 hR1 h
  obtain ⟨N, hN⟩ : ∃ N : Nat, C * R = (N : Int) := ⟨(C * R).toNat, by omega⟩
  have nbf : ∀ x : Nat, x < N → (z_far C own x = 1 ↔ (x : Int) = own - C ∨ ((x : Int) = own - 1 ∧ own % C > 0) ∨ ((x : Int) = own + 1 ∧ own % C < C - 1) ∨ (x : Int) = own + C) := fun x hxN => z_far_nb hC1 (by omega) (by omega)
  rw [hN, Int.toNat_natCast]
  rw [hN] at h hx r2 r3
  clear hN
  obtain ⟨o, ho⟩ : ∃ o : Nat, own = (o : Int) := ⟨own.toNat, by omega⟩
  have s1 : z_bg C own g (o - 1) = z_wgs g (z_bg C own g 0) (if own / C > 0 then own - C else -1) := by
    refine z_bg_w (by omega) ?_ (fun x h1 h2 => ?_)
    · split <;> omega
    · rw [nbf x (by omega)]
      split <;> omega
  have s2 : z_bg C own g o = z_wgs g (z_bg C own g (o - 1)) (if own % C > 0 then own - 1 else -1) := by
    refine z_bg_w (by omega) ?_ (fun x h1 h2 => ?_)
    · split <;> omega
    · rw [nbf x (by omega)]
      split <;> omega
  have s3 : z_bg C own g (min (o + 2) N) = z_wgs g (z_bg C own g o) (if own % C < C - 1 then own + 1 else -1) := by
    refine z_bg_w (by omega) ?_ (fun x h1 h2 => ?_)
    · split <;> omega
    · rw [nbf x (by omega)]
      split <;> omega
  have s4 : z_bg C own g N = z_wgs g (z_bg C own g (min (o + 2) N)) (if own / C < R - 1 then own + C else -1) := by
    refine z_bg_w (by omega) ?_ (fun x h1 h2 => ?_)
    · split <;> omega
    · rw [nbf x (by omega)]
      split <;> omega
  rw [s4, s3, s2, s1]
  rfl
end
set_option maxRecDepth 20000 in
theorem gX9_lead_0 {xs : List Int} {d : Nat} {M : z_M} {P : Option z_V → z_L → z_M → Prop} {a1 : Int} {a2 : Int} {a3 : Int} {a4 : Int} (hF : z_fix M) (hg1 : z_gor M (M 1 0)) (hh2 : z_her M (M 1 2))
    (b1 : M (M 1 0) 12 ≤ 6)
    (l1 : (¬ (z_cmg M (M 1 0) a1 a2)) → P (some (0, (-1))) z_LL M)
    (l2 : ((z_cmg M (M 1 0) a1 a2)) → (a3 < 1) → P (some (0, (-1))) z_LL M)
    (l3 : ((z_cmg M (M 1 0) a1 a2)) → (¬ (a3 < 1)) → (20 < a3) → P (some (0, (-1))) z_LL M)
    (l4 : ((z_cmg M (M 1 0) a1 a2)) → (¬ (a3 < 1)) → (¬ (20 < a3)) → (a4 < 0) → P (some (0, (-1))) z_LL M)
    (l5 : ((z_cmg M (M 1 0) a1 a2)) → (¬ (a3 < 1)) → (¬ (20 < a3)) → (¬ (a4 < 0)) → (1 < a4) → P (some (0, (-1))) z_LL M)
    (l6 : ((z_cmg M (M 1 0) a1 a2)) → (¬ (a3 < 1)) → (¬ (20 < a3)) → (¬ (a4 < 0)) → (¬ (1 < a4)) → ((z_and (z_shr (M (M 1 2) 5) a1) 1) = 0) → wp xs (d + 1) mX0_bestDrive 0 [(2, 38), (2, (M 1 2)), (3, 0), (3, 0), (3, 0), (3, 0), (3, 0)] [] z_LL (z_up (z_up (z_up (z_up M 38 4 a1) 38 5 a2) 38 6 1) 38 7 a3) (fun r L1 M1 => wp xs (d + 2) mX9_lead 56 [(2, 1), (0, a1), (0, a2), (0, a3), (0, a4), (3, 0)] (z_ol r ++ []) L1 M1 P))
    (l7 : ((z_cmg M (M 1 0) a1 a2)) → (¬ (a3 < 1)) → (¬ (20 < a3)) → (¬ (a4 < 0)) → (¬ (1 < a4)) → (¬ ((z_and (z_shr (M (M 1 2) 5) a1) 1) = 0)) → P (some (0, (-1))) z_LL M) :
    wp xs (d + 2) mX9_lead 0 [(2, 1), (0, a1), (0, a2), (0, a3), (0, a4), (3, 0)] [] z_LL M P := by
  refine wp_run 1 (pc' := 1) (ls' := [(2, 1), (0, a1), (0, a2), (0, a3), (0, a4), (3, 0)]) (st' := [(2, 1)]) rfl ?_
  refine wp_gf (pc' := 4) (t := 2) (v := (M 1 0)) rfl rfl (by decide) rfl rfl rfl ?_
  refine wp_run 2 (pc' := 6) (ls' := [(2, 1), (0, a1), (0, a2), (0, a3), (0, a4), (3, 0)]) (st' := [(0, a2), (0, a1), (2, (M 1 0))]) rfl ?_
  refine wp_callv (pc' := 9) (as := [(2, (M 1 0)), (0, a1), (0, a2)]) (rest := []) (ls1 := [(2, (M 1 0)), (0, a1), (0, a2)]) rfl rfl rfl rfl (z_args_v rfl rfl rfl rfl (Nat.le_of_ble_eq_true rfl) rfl (by decide) (z_gl0 hg1)) rfl ?_
  refine s_X1_canMix hg1 (b1) ?_
  show wp xs _ mX9_lead 9 [(2, 1), (0, a1), (0, a2), (0, a3), (0, a4), (3, 0)] [(0, (z_b (z_cmg M (M 1 0) a1 a2)))] z_LL M _
  refine wp_be rfl rfl rfl (fun (c1 : ¬ (z_cmg M (M 1 0) a1 a2)) => ?_) (fun (c1 : (z_cmg M (M 1 0) a1 a2)) => ?_)
  · refine wp_run 1 (pc' := 33) (ls' := [(2, 1), (0, a1), (0, a2), (0, a3), (0, a4), (3, 0)]) (st' := [(0, (-1))]) rfl ?_
    exact wp_ret rfl rfl (l1 c1)
  · refine wp_run 2 (pc' := 15) (ls' := [(2, 1), (0, a1), (0, a2), (0, a3), (0, a4), (3, 0)]) (st' := [(0, a4), (0, a3)]) rfl ?_
    refine wp_callv (pc' := 18) (as := [(0, a3), (0, a4)]) (rest := []) (ls1 := [(0, a3), (0, a4)]) rfl rfl rfl rfl rfl rfl ?_
    refine wp_run 2 (pc' := 2) (ls' := [(0, a3), (0, a4)]) (st' := [(0, 1), (0, a3)]) rfl ?_
    refine wp_if2 rfl rfl rfl (fun (c2 : a3 < 1) => ?_) (fun (c2 : ¬ (a3 < 1)) => ?_)
    · refine wp_run 1 (pc' := 25) (ls' := [(0, a3), (0, a4)]) (st' := [(0, 0)]) rfl ?_
      refine wp_ret rfl rfl ?_
      show wp xs _ mX9_lead 18 [(2, 1), (0, a1), (0, a2), (0, a3), (0, a4), (3, 0)] [(0, 0)] z_LL M _
      refine wp_run 2 (pc' := 33) (ls' := [(2, 1), (0, a1), (0, a2), (0, a3), (0, a4), (3, 0)]) (st' := [(0, (-1))]) rfl ?_
      exact wp_ret rfl rfl (l2 c1 c2)
    · refine wp_run 2 (pc' := 8) (ls' := [(0, a3), (0, a4)]) (st' := [(0, 20), (0, a3)]) rfl ?_
      refine wp_if2 rfl rfl rfl (fun (c3 : 20 < a3) => ?_) (fun (c3 : ¬ (20 < a3)) => ?_)
      · refine wp_run 1 (pc' := 25) (ls' := [(0, a3), (0, a4)]) (st' := [(0, 0)]) rfl ?_
        refine wp_ret rfl rfl ?_
        show wp xs _ mX9_lead 18 [(2, 1), (0, a1), (0, a2), (0, a3), (0, a4), (3, 0)] [(0, 0)] z_LL M _
        refine wp_run 2 (pc' := 33) (ls' := [(2, 1), (0, a1), (0, a2), (0, a3), (0, a4), (3, 0)]) (st' := [(0, (-1))]) rfl ?_
        exact wp_ret rfl rfl (l3 c1 c2 c3)
      · refine wp_run 1 (pc' := 12) (ls' := [(0, a3), (0, a4)]) (st' := [(0, a4)]) rfl ?_
        refine wp_if1 rfl rfl rfl (fun (c4 : a4 < 0) => ?_) (fun (c4 : ¬ (a4 < 0)) => ?_)
        · refine wp_run 1 (pc' := 25) (ls' := [(0, a3), (0, a4)]) (st' := [(0, 0)]) rfl ?_
          refine wp_ret rfl rfl ?_
          show wp xs _ mX9_lead 18 [(2, 1), (0, a1), (0, a2), (0, a3), (0, a4), (3, 0)] [(0, 0)] z_LL M _
          refine wp_run 2 (pc' := 33) (ls' := [(2, 1), (0, a1), (0, a2), (0, a3), (0, a4), (3, 0)]) (st' := [(0, (-1))]) rfl ?_
          exact wp_ret rfl rfl (l4 c1 c2 c3 c4)
        · refine wp_run 2 (pc' := 17) (ls' := [(0, a3), (0, a4)]) (st' := [(0, 1), (0, a4)]) rfl ?_
          refine wp_if2 rfl rfl rfl (fun (c5 : 1 < a4) => ?_) (fun (c5 : ¬ (1 < a4)) => ?_)
          · refine wp_run 1 (pc' := 25) (ls' := [(0, a3), (0, a4)]) (st' := [(0, 0)]) rfl ?_
            refine wp_ret rfl rfl ?_
            show wp xs _ mX9_lead 18 [(2, 1), (0, a1), (0, a2), (0, a3), (0, a4), (3, 0)] [(0, 0)] z_LL M _
            refine wp_run 2 (pc' := 33) (ls' := [(2, 1), (0, a1), (0, a2), (0, a3), (0, a4), (3, 0)]) (st' := [(0, (-1))]) rfl ?_
            exact wp_ret rfl rfl (l5 c1 c2 c3 c4 c5)
          · refine wp_run 2 (pc' := 25) (ls' := [(0, a3), (0, a4)]) (st' := [(0, 1)]) rfl ?_
            refine wp_ret rfl rfl ?_
            show wp xs _ mX9_lead 18 [(2, 1), (0, a1), (0, a2), (0, a3), (0, a4), (3, 0)] [(0, 1)] z_LL M _
            refine wp_run 2 (pc' := 22) (ls' := [(2, 1), (0, a1), (0, a2), (0, a3), (0, a4), (3, 0)]) (st' := [(2, 1)]) rfl ?_
            refine wp_gf (pc' := 25) (t := 2) (v := (M 1 2)) rfl rfl (by decide) rfl rfl rfl ?_
            refine wp_run 1 (pc' := 26) (ls' := [(2, 1), (0, a1), (0, a2), (0, a3), (0, a4), (3, 0)]) (st' := [(0, a1), (2, (M 1 2))]) rfl ?_
            refine wp_callv (pc' := 29) (as := [(2, (M 1 2)), (0, a1)]) (rest := []) (ls1 := [(2, (M 1 2)), (0, a1)]) rfl rfl rfl rfl (z_args_v rfl rfl rfl rfl (Nat.le_of_ble_eq_true rfl) rfl (by decide) (z_hl0 hh2)) rfl ?_
            refine wp_run 1 (pc' := 1) (ls' := [(2, (M 1 2)), (0, a1)]) (st' := [(2, (M 1 2))]) rfl ?_
            refine wp_gf (pc' := 4) (t := 0) (v := (M (M 1 2) 5)) rfl rfl (by decide) rfl (z_hl0 hh2) rfl ?_
            refine wp_run 4 (pc' := 8) (ls' := [(2, (M 1 2)), (0, a1)]) (st' := [(0, (z_and (z_shr (M (M 1 2) 5) a1) 1))]) rfl ?_
            refine wp_if1 rfl rfl rfl (fun (c6 : (z_and (z_shr (M (M 1 2) 5) a1) 1) = 0) => ?_) (fun (c6 : ¬ ((z_and (z_shr (M (M 1 2) 5) a1) 1) = 0)) => ?_)
            · refine wp_run 1 (pc' := 16) (ls' := [(2, (M 1 2)), (0, a1)]) (st' := [(0, 0)]) rfl ?_
              refine wp_ret rfl rfl ?_
              show wp xs _ mX9_lead 29 [(2, 1), (0, a1), (0, a2), (0, a3), (0, a4), (3, 0)] [(0, 0)] z_LL M _
              refine wp_run 2 (pc' := 35) (ls' := [(2, 1), (0, a1), (0, a2), (0, a3), (0, a4), (3, 0)]) (st' := [(2, 1)]) rfl ?_
              refine wp_gf (pc' := 38) (t := 2) (v := 38) rfl rfl (by decide) rfl rfl (fx_1_6 hF) ?_
              refine wp_run 4 (pc' := 42) (ls' := [(2, 1), (0, a1), (0, a2), (0, a3), (0, a4), (3, 0)]) (st' := [(0, a3), (0, 1), (0, a2), (0, a1), (2, 38)]) rfl ?_
              refine wp_callv (pc' := 45) (as := [(2, 38), (0, a1), (0, a2), (0, 1), (0, a3)]) (rest := []) (ls1 := [(2, 38), (0, a1), (0, a2), (0, 1), (0, a3)]) rfl rfl rfl rfl rfl rfl ?_
              refine wp_run 2 (pc' := 2) (ls' := [(2, 38), (0, a1), (0, a2), (0, 1), (0, a3)]) (st' := [(0, a1), (2, 38)]) rfl ?_
              refine wp_pf (pc' := 5) rfl rfl rfl rfl (fun z => absurd z (by decide)) (fun z => absurd z (by decide)) ?_
              refine wp_run 2 (pc' := 7) (ls' := [(2, 38), (0, a1), (0, a2), (0, 1), (0, a3)]) (st' := [(0, a2), (2, 38)]) rfl ?_
              refine wp_pf (pc' := 10) rfl rfl rfl rfl (fun z => absurd z (by decide)) (fun z => absurd z (by decide)) ?_
              refine wp_run 2 (pc' := 12) (ls' := [(2, 38), (0, a1), (0, a2), (0, 1), (0, a3)]) (st' := [(0, 1), (2, 38)]) rfl ?_
              refine wp_pf (pc' := 15) rfl rfl rfl rfl (fun z => absurd z (by decide)) (fun z => absurd z (by decide)) ?_
              refine wp_run 2 (pc' := 18) (ls' := [(2, 38), (0, a1), (0, a2), (0, 1), (0, a3)]) (st' := [(0, a3), (2, 38)]) rfl ?_
              refine wp_pf (pc' := 21) rfl rfl rfl rfl (fun z => absurd z (by decide)) (fun z => absurd z (by decide)) ?_
              refine wp_ret rfl rfl ?_
              show wp xs _ mX9_lead 45 [(2, 1), (0, a1), (0, a2), (0, a3), (0, a4), (3, 0)] [] z_LL (z_up (z_up (z_up (z_up M 38 4 a1) 38 5 a2) 38 6 1) 38 7 a3) _
              refine wp_run 1 (pc' := 46) (ls' := [(2, 1), (0, a1), (0, a2), (0, a3), (0, a4), (3, 0)]) (st' := [(2, 1)]) rfl ?_
              refine wp_gf (pc' := 49) (t := 2) (v := 38) rfl rfl (by decide) rfl rfl (z_upq (by decide) (z_upq (by decide) (z_upq (by decide) (z_upq (by decide) (fx_1_6 hF))))) ?_
              refine wp_run 1 (pc' := 50) (ls' := [(2, 1), (0, a1), (0, a2), (0, a3), (0, a4), (3, 0)]) (st' := [(2, 1), (2, 38)]) rfl ?_
              refine wp_gf (pc' := 53) (t := 2) (v := (M 1 2)) rfl rfl (by decide) rfl rfl (z_upq (by decide) (z_upq (by decide) (z_upq (by decide) (z_upq (by decide) rfl)))) ?_
              refine wp_callv (pc' := 56) (as := [(2, 38), (2, (M 1 2))]) (rest := []) (ls1 := [(2, 38), (2, (M 1 2)), (3, 0), (3, 0), (3, 0), (3, 0), (3, 0)]) rfl rfl rfl rfl rfl rfl ?_
              exact l6 c1 c2 c3 c4 c5 c6
            · refine wp_run 2 (pc' := 16) (ls' := [(2, (M 1 2)), (0, a1)]) (st' := [(0, 1)]) rfl ?_
              refine wp_ret rfl rfl ?_
              show wp xs _ mX9_lead 29 [(2, 1), (0, a1), (0, a2), (0, a3), (0, a4), (3, 0)] [(0, 1)] z_LL M _
              refine wp_run 2 (pc' := 33) (ls' := [(2, 1), (0, a1), (0, a2), (0, a3), (0, a4), (3, 0)]) (st' := [(0, (-1))]) rfl ?_
              exact wp_ret rfl rfl (l7 c1 c2 c3 c4 c5 c6)
set_option maxRecDepth 20000 in
theorem gX9_lead_56 {xs : List Int} {d : Nat} {M : z_M} {P : Option z_V → z_L → z_M → Prop} {x1 : Int} {x2 : Int} {x3 : Int} {x4 : Int} {s0 : Int} (hF : z_fix M) 
    (l1 : (x4 ≠ 0) → P (some (0, (M 38 8))) z_LL M)
    (l2 : (¬ (x4 ≠ 0)) → P (some (0, s0)) z_LL M) :
    wp xs d mX9_lead 56 [(2, 1), (0, x1), (0, x2), (0, x3), (0, x4), (3, 0)] [(0, s0)] z_LL M P := by
  refine wp_run 2 (pc' := 60) (ls' := [(2, 1), (0, x1), (0, x2), (0, x3), (0, x4), (0, s0)]) (st' := [(0, x4)]) rfl ?_
  refine wp_if1 rfl rfl rfl (fun (c1 : x4 ≠ 0) => ?_) (fun (c1 : ¬ (x4 ≠ 0)) => ?_)
  · refine wp_run 1 (pc' := 69) (ls' := [(2, 1), (0, x1), (0, x2), (0, x3), (0, x4), (0, s0)]) (st' := [(2, 1)]) rfl ?_
    refine wp_gf (pc' := 72) (t := 2) (v := 38) rfl rfl (by decide) rfl rfl (fx_1_6 hF) ?_
    refine wp_gf (pc' := 75) (t := 0) (v := (M 38 8)) rfl rfl (by decide) rfl rfl rfl ?_
    exact wp_ret rfl rfl (l1 c1)
  · refine wp_run 2 (pc' := 75) (ls' := [(2, 1), (0, x1), (0, x2), (0, x3), (0, x4), (0, s0)]) (st' := [(0, s0)]) rfl ?_
    exact wp_ret rfl rfl (l2 c1)
set_option maxRecDepth 20000 in
theorem gX0_bestDrive_0 {xs : List Int} {d : Nat} {M : z_M} {P : Option z_V → z_L → z_M → Prop} {a1 : Int} (ha1 : z_her M a1)
    (b1 : 0 ≤ (M 38 4) ∧ (M 38 4) < 6)
    (l1 : wp xs d mX0_mixesFrom 0 [(2, 38), (2, a1), (0, (M (a1 + 1) (M 38 4))), (3, 0)] [] z_LL M (fun r L1 M1 => wp xs (d + 1) mX0_bestDrive 19 [(2, 38), (2, a1), (0, (M (a1 + 1) (M 38 4))), (0, (M (a1 + 1) (M 38 4))), (3, 0), (3, 0), (3, 0)] (z_ol r ++ [(2, 38)]) L1 M1 P)) :
    wp xs (d + 1) mX0_bestDrive 0 [(2, 38), (2, a1), (3, 0), (3, 0), (3, 0), (3, 0), (3, 0)] [] z_LL M P := by
  refine wp_run 1 (pc' := 1) (ls' := [(2, 38), (2, a1), (3, 0), (3, 0), (3, 0), (3, 0), (3, 0)]) (st' := [(2, a1)]) rfl ?_
  refine wp_gf (pc' := 4) (t := 2) (v := (a1 + 1)) rfl rfl (by decide) rfl (z_hl0 ha1) (z_hf0 ha1) ?_
  refine wp_run 1 (pc' := 5) (ls' := [(2, 38), (2, a1), (3, 0), (3, 0), (3, 0), (3, 0), (3, 0)]) (st' := [(2, 38), (2, (a1 + 1))]) rfl ?_
  refine wp_gf (pc' := 8) (t := 0) (v := (M 38 4)) rfl rfl (by decide) rfl rfl rfl ?_
  refine wp_iald (pc' := 9) (v := (M (a1 + 1) (M 38 4))) rfl rfl (z_hl1 ha1) (b1) rfl ?_
  refine wp_run 7 (pc' := 16) (ls' := [(2, 38), (2, a1), (0, (M (a1 + 1) (M 38 4))), (0, (M (a1 + 1) (M 38 4))), (3, 0), (3, 0), (3, 0)]) (st' := [(0, (M (a1 + 1) (M 38 4))), (2, a1), (2, 38), (2, 38)]) rfl ?_
  refine wp_callv (pc' := 19) (as := [(2, 38), (2, a1), (0, (M (a1 + 1) (M 38 4)))]) (rest := [(2, 38)]) (ls1 := [(2, 38), (2, a1), (0, (M (a1 + 1) (M 38 4))), (3, 0)]) rfl rfl rfl rfl rfl rfl ?_
  exact l1
set_option maxRecDepth 20000 in
theorem gX0_bestDrive_19 {xs : List Int} {d : Nat} {M : z_M} {P : Option z_V → z_L → z_M → Prop} {x1 : Int} {x2 : Int} {x3 : Int} {s1 : Int} (hx1 : z_her M x1)
    (l1 : wp xs d mX0_bestDrive 25 [(2, 38), (2, x1), (0, x2), (0, x3), (0, 0), (3, 0), (3, 0)] [] z_LL (z_up M 38 8 s1) P) :
    wp xs d mX0_bestDrive 19 [(2, 38), (2, x1), (0, x2), (0, x3), (3, 0), (3, 0), (3, 0)] [(0, s1), (2, 38)] z_LL M P := by
  refine wp_pf (pc' := 22) rfl rfl rfl rfl (fun z => absurd z (by decide)) (fun z => absurd z (by decide)) ?_
  refine wp_run 2 (pc' := 25) (ls' := [(2, 38), (2, x1), (0, x2), (0, x3), (0, 0), (3, 0), (3, 0)]) (st' := []) rfl ?_
  exact l1
set_option maxRecDepth 20000 in
theorem gX0_bestDrive_25 {xs : List Int} {d : Nat} {M : z_M} {P : Option z_V → z_L → z_M → Prop} {x1 : Int} {x2 : Int} {x3 : Int} {x4 : Int} {w5 : z_V} {w6 : z_V} (hF : z_fix M) (hx1 : z_her M x1) (hg2 : z_gor M (M 34 3))
    (l1 : (4 ≤ x4) → P (some (0, x3)) z_LL M)
    (b1 : (¬ (4 ≤ x4)) → 0 ≤ (z_w ((z_w (x2 * 4)) + x4)) ∧ (z_w ((z_w (x2 * 4)) + x4)) < 100)
    (l2 : (¬ (4 ≤ x4)) → ((M ((M 34 3) + 9) (z_w ((z_w (x2 * 4)) + x4))) ≠ (-1)) → wp xs d mX0_mixesFrom 0 [(2, 38), (2, x1), (0, (M ((M 34 3) + 9) (z_w ((z_w (x2 * 4)) + x4)))), (3, 0)] [] z_LL M (fun r L1 M1 => wp xs (d + 1) mX0_bestDrive 67 [(2, 38), (2, x1), (0, x2), (0, x3), (0, x4), (0, (M ((M 34 3) + 9) (z_w ((z_w (x2 * 4)) + x4)))), w6] (z_ol r ++ []) L1 M1 P))
    (l3 : (¬ (4 ≤ x4)) → (¬ ((M ((M 34 3) + 9) (z_w ((z_w (x2 * 4)) + x4))) ≠ (-1))) → ((-1) ≤ (M 38 8)) → wp xs (d + 1) mX0_bestDrive 25 [(2, 38), (2, x1), (0, x2), (0, x3), (0, (z_w (x4 + 1))), (0, (M ((M 34 3) + 9) (z_w ((z_w (x2 * 4)) + x4)))), (0, (-1))] [] z_LL M P)
    (l4 : (¬ (4 ≤ x4)) → (¬ ((M ((M 34 3) + 9) (z_w ((z_w (x2 * 4)) + x4))) ≠ (-1))) → (¬ ((-1) ≤ (M 38 8))) → wp xs (d + 1) mX0_bestDrive 25 [(2, 38), (2, x1), (0, x2), (0, (M ((M 34 3) + 9) (z_w ((z_w (x2 * 4)) + x4)))), (0, (z_w (x4 + 1))), (0, (M ((M 34 3) + 9) (z_w ((z_w (x2 * 4)) + x4)))), (0, (-1))] [] z_LL (z_up M 38 8 (-1)) P) :
    wp xs (d + 1) mX0_bestDrive 25 [(2, 38), (2, x1), (0, x2), (0, x3), (0, x4), w5, w6] [] z_LL M P := by
  refine wp_run 2 (pc' := 28) (ls' := [(2, 38), (2, x1), (0, x2), (0, x3), (0, x4), w5, w6]) (st' := [(0, 4), (0, x4)]) rfl ?_
  refine wp_if2 rfl rfl rfl (fun (c1 : 4 ≤ x4) => ?_) (fun (c1 : ¬ (4 ≤ x4)) => ?_)
  · refine wp_run 1 (pc' := 94) (ls' := [(2, 38), (2, x1), (0, x2), (0, x3), (0, x4), w5, w6]) (st' := [(0, x3)]) rfl ?_
    exact wp_ret rfl rfl (l1 c1)
  · refine wp_run 1 (pc' := 32) (ls' := [(2, 38), (2, x1), (0, x2), (0, x3), (0, x4), w5, w6]) (st' := [(2, 38)]) rfl ?_
    refine wp_gf (pc' := 35) (t := 2) (v := 34) rfl rfl (by decide) rfl rfl (fx_38_0 hF) ?_
    refine wp_gf (pc' := 38) (t := 2) (v := (M 34 3)) rfl rfl (by decide) rfl rfl rfl ?_
    refine wp_gf (pc' := 41) (t := 2) (v := ((M 34 3) + 9)) rfl rfl (by decide) rfl (z_gl0 hg2) (z_gf8 hg2) ?_
    refine wp_run 5 (pc' := 47) (ls' := [(2, 38), (2, x1), (0, x2), (0, x3), (0, x4), w5, w6]) (st' := [(0, (z_w ((z_w (x2 * 4)) + x4))), (2, ((M 34 3) + 9))]) rfl ?_
    refine wp_iald (pc' := 48) (v := (M ((M 34 3) + 9) (z_w ((z_w (x2 * 4)) + x4)))) rfl rfl (z_gl9 hg2) (b1 c1) rfl ?_
    refine wp_run 3 (pc' := 53) (ls' := [(2, 38), (2, x1), (0, x2), (0, x3), (0, x4), (0, (M ((M 34 3) + 9) (z_w ((z_w (x2 * 4)) + x4)))), w6]) (st' := [(0, (-1)), (0, (M ((M 34 3) + 9) (z_w ((z_w (x2 * 4)) + x4))))]) rfl ?_
    refine wp_if2 rfl rfl rfl (fun (c2 : (M ((M 34 3) + 9) (z_w ((z_w (x2 * 4)) + x4))) ≠ (-1)) => ?_) (fun (c2 : ¬ ((M ((M 34 3) + 9) (z_w ((z_w (x2 * 4)) + x4))) ≠ (-1))) => ?_)
    · refine wp_run 3 (pc' := 64) (ls' := [(2, 38), (2, x1), (0, x2), (0, x3), (0, x4), (0, (M ((M 34 3) + 9) (z_w ((z_w (x2 * 4)) + x4)))), w6]) (st' := [(0, (M ((M 34 3) + 9) (z_w ((z_w (x2 * 4)) + x4)))), (2, x1), (2, 38)]) rfl ?_
      refine wp_callv (pc' := 67) (as := [(2, 38), (2, x1), (0, (M ((M 34 3) + 9) (z_w ((z_w (x2 * 4)) + x4))))]) (rest := []) (ls1 := [(2, 38), (2, x1), (0, (M ((M 34 3) + 9) (z_w ((z_w (x2 * 4)) + x4)))), (3, 0)]) rfl rfl rfl rfl rfl rfl ?_
      exact l2 c1 c2
    · refine wp_run 5 (pc' := 72) (ls' := [(2, 38), (2, x1), (0, x2), (0, x3), (0, x4), (0, (M ((M 34 3) + 9) (z_w ((z_w (x2 * 4)) + x4)))), (0, (-1))]) (st' := [(2, 38), (0, (-1))]) rfl ?_
      refine wp_gf (pc' := 75) (t := 0) (v := (M 38 8)) rfl rfl (by decide) rfl rfl rfl ?_
      refine wp_if2 rfl rfl rfl (fun (c3 : (-1) ≤ (M 38 8)) => ?_) (fun (c3 : ¬ ((-1) ≤ (M 38 8))) => ?_)
      · refine wp_run 2 (pc' := 25) (ls' := [(2, 38), (2, x1), (0, x2), (0, x3), (0, (z_w (x4 + 1))), (0, (M ((M 34 3) + 9) (z_w ((z_w (x2 * 4)) + x4)))), (0, (-1))]) (st' := []) rfl ?_
        exact l3 c1 c2 c3
      · refine wp_run 2 (pc' := 81) (ls' := [(2, 38), (2, x1), (0, x2), (0, x3), (0, x4), (0, (M ((M 34 3) + 9) (z_w ((z_w (x2 * 4)) + x4)))), (0, (-1))]) (st' := [(0, (-1)), (2, 38)]) rfl ?_
        refine wp_pf (pc' := 84) rfl rfl rfl rfl (fun z => absurd z (by decide)) (fun z => absurd z (by decide)) ?_
        refine wp_run 4 (pc' := 25) (ls' := [(2, 38), (2, x1), (0, x2), (0, (M ((M 34 3) + 9) (z_w ((z_w (x2 * 4)) + x4)))), (0, (z_w (x4 + 1))), (0, (M ((M 34 3) + 9) (z_w ((z_w (x2 * 4)) + x4)))), (0, (-1))]) (st' := []) rfl ?_
        exact l4 c1 c2 c3
set_option maxRecDepth 20000 in
theorem gX0_bestDrive_67 {xs : List Int} {d : Nat} {M : z_M} {P : Option z_V → z_L → z_M → Prop} {x1 : Int} {x2 : Int} {x3 : Int} {x4 : Int} {x5 : Int} {w6 : z_V} {s0 : Int} (hx1 : z_her M x1)
    (l1 : (s0 ≤ (M 38 8)) → wp xs d mX0_bestDrive 25 [(2, 38), (2, x1), (0, x2), (0, x3), (0, (z_w (x4 + 1))), (0, x5), (0, s0)] [] z_LL M P)
    (l2 : (¬ (s0 ≤ (M 38 8))) → wp xs d mX0_bestDrive 25 [(2, 38), (2, x1), (0, x2), (0, x5), (0, (z_w (x4 + 1))), (0, x5), (0, s0)] [] z_LL (z_up M 38 8 s0) P) :
    wp xs d mX0_bestDrive 67 [(2, 38), (2, x1), (0, x2), (0, x3), (0, x4), (0, x5), w6] [(0, s0)] z_LL M P := by
  refine wp_run 3 (pc' := 72) (ls' := [(2, 38), (2, x1), (0, x2), (0, x3), (0, x4), (0, x5), (0, s0)]) (st' := [(2, 38), (0, s0)]) rfl ?_
  refine wp_gf (pc' := 75) (t := 0) (v := (M 38 8)) rfl rfl (by decide) rfl rfl rfl ?_
  refine wp_if2 rfl rfl rfl (fun (c1 : s0 ≤ (M 38 8)) => ?_) (fun (c1 : ¬ (s0 ≤ (M 38 8))) => ?_)
  · refine wp_run 2 (pc' := 25) (ls' := [(2, 38), (2, x1), (0, x2), (0, x3), (0, (z_w (x4 + 1))), (0, x5), (0, s0)]) (st' := []) rfl ?_
    exact l1 c1
  · refine wp_run 2 (pc' := 81) (ls' := [(2, 38), (2, x1), (0, x2), (0, x3), (0, x4), (0, x5), (0, s0)]) (st' := [(0, s0), (2, 38)]) rfl ?_
    refine wp_pf (pc' := 84) rfl rfl rfl rfl (fun z => absurd z (by decide)) (fun z => absurd z (by decide)) ?_
    refine wp_run 4 (pc' := 25) (ls' := [(2, 38), (2, x1), (0, x2), (0, x5), (0, (z_w (x4 + 1))), (0, x5), (0, s0)]) (st' := []) rfl ?_
    exact l2 c1
set_option maxRecDepth 20000 in
theorem gX0_mixesFrom_0 {xs : List Int} {d : Nat} {M : z_M} {P : Option z_V → z_L → z_M → Prop} {a1 : Int} {a2 : Int} (hF : z_fix M) (ha1 : z_her M a1) (hn1 : a1 ≠ 39)
    (b1 : 0 ≤ (M 38 4) ∧ (M 38 4) < 6)
    (l1 : wp xs (d + 1) mX0_mixesFrom 23 [(2, 38), (2, a1), (0, a2), (0, 0)] [] z_LL (z_up (z_up (z_up (z_up (z_cpy (z_cpy (z_cpy (z_cpy (z_cpy M (a1 + 1) 0 40 0 6) (a1 + 2) 0 41 0 6) (a1 + 3) 0 42 0 25) (a1 + 4) 0 43 0 25) (a1 + 5) 0 44 0 36) 39 5 (M a1 5)) 39 6 (M a1 6)) 39 7 (M a1 7)) 40 (M 38 4) a2) P) :
    wp xs (d + 1) mX0_mixesFrom 0 [(2, 38), (2, a1), (0, a2), (3, 0)] [] z_LL M P := by
  refine wp_run 1 (pc' := 1) (ls' := [(2, 38), (2, a1), (0, a2), (3, 0)]) (st' := [(2, 38)]) rfl ?_
  refine wp_gf (pc' := 4) (t := 2) (v := 39) rfl rfl (by decide) rfl rfl (fx_38_1 hF) ?_
  refine wp_run 1 (pc' := 5) (ls' := [(2, 38), (2, a1), (0, a2), (3, 0)]) (st' := [(2, a1), (2, 39)]) rfl ?_
  refine wp_callv (pc' := 8) (as := [(2, 39), (2, a1)]) (rest := []) (ls1 := [(2, 39), (2, a1)]) rfl rfl rfl rfl rfl rfl ?_
  refine wp_run 1 (pc' := 1) (ls' := [(2, 39), (2, a1)]) (st' := [(2, a1)]) rfl ?_
  refine wp_gf (pc' := 4) (t := 2) (v := (a1 + 1)) rfl rfl (by decide) rfl (z_hl0 ha1) (z_hf0 ha1) ?_
  refine wp_run 2 (pc' := 6) (ls' := [(2, 39), (2, a1)]) (st' := [(2, 39), (0, 0), (2, (a1 + 1))]) rfl ?_
  refine wp_gf (pc' := 9) (t := 2) (v := 40) rfl rfl (by decide) rfl rfl (fx_39_0 hF) ?_
  refine wp_run 2 (pc' := 12) (ls' := [(2, 39), (2, a1)]) (st' := [(0, 6), (0, 0), (2, 40), (0, 0), (2, (a1 + 1))]) rfl ?_
  refine wp_acp (pc' := 15) rfl rfl (z_hl1 ha1) rfl (by decide) ?_
  refine wp_run 1 (pc' := 16) (ls' := [(2, 39), (2, a1)]) (st' := [(2, a1)]) rfl ?_
  refine wp_gf (pc' := 19) (t := 2) (v := (a1 + 2)) rfl rfl (by decide) rfl (z_hl0 ha1) (z_cpq (by have := z_hr ha1; omega) (z_hf1 ha1)) ?_
  refine wp_run 2 (pc' := 21) (ls' := [(2, 39), (2, a1)]) (st' := [(2, 39), (0, 0), (2, (a1 + 2))]) rfl ?_
  refine wp_gf (pc' := 24) (t := 2) (v := 41) rfl rfl (by decide) rfl rfl (z_cpq (by decide) (fx_39_1 hF)) ?_
  refine wp_run 2 (pc' := 27) (ls' := [(2, 39), (2, a1)]) (st' := [(0, 6), (0, 0), (2, 41), (0, 0), (2, (a1 + 2))]) rfl ?_
  refine wp_acp (pc' := 30) rfl rfl (z_hl2 ha1) rfl (by decide) ?_
  refine wp_run 1 (pc' := 31) (ls' := [(2, 39), (2, a1)]) (st' := [(2, a1)]) rfl ?_
  refine wp_gf (pc' := 34) (t := 2) (v := (a1 + 3)) rfl rfl (by decide) rfl (z_hl0 ha1) (z_cpq (by have := z_hr ha1; omega) (z_cpq (by have := z_hr ha1; omega) (z_hf2 ha1))) ?_
  refine wp_run 2 (pc' := 36) (ls' := [(2, 39), (2, a1)]) (st' := [(2, 39), (0, 0), (2, (a1 + 3))]) rfl ?_
  refine wp_gf (pc' := 39) (t := 2) (v := 42) rfl rfl (by decide) rfl rfl (z_cpq (by decide) (z_cpq (by decide) (fx_39_2 hF))) ?_
  refine wp_run 2 (pc' := 42) (ls' := [(2, 39), (2, a1)]) (st' := [(0, 25), (0, 0), (2, 42), (0, 0), (2, (a1 + 3))]) rfl ?_
  refine wp_acp (pc' := 45) rfl rfl (z_hl3 ha1) rfl (by decide) ?_
  refine wp_run 1 (pc' := 46) (ls' := [(2, 39), (2, a1)]) (st' := [(2, a1)]) rfl ?_
  refine wp_gf (pc' := 49) (t := 2) (v := (a1 + 4)) rfl rfl (by decide) rfl (z_hl0 ha1) (z_cpq (by have := z_hr ha1; omega) (z_cpq (by have := z_hr ha1; omega) (z_cpq (by have := z_hr ha1; omega) (z_hf3 ha1)))) ?_
  refine wp_run 2 (pc' := 51) (ls' := [(2, 39), (2, a1)]) (st' := [(2, 39), (0, 0), (2, (a1 + 4))]) rfl ?_
  refine wp_gf (pc' := 54) (t := 2) (v := 43) rfl rfl (by decide) rfl rfl (z_cpq (by decide) (z_cpq (by decide) (z_cpq (by decide) (fx_39_3 hF)))) ?_
  refine wp_run 2 (pc' := 57) (ls' := [(2, 39), (2, a1)]) (st' := [(0, 25), (0, 0), (2, 43), (0, 0), (2, (a1 + 4))]) rfl ?_
  refine wp_acp (pc' := 60) rfl rfl (z_hl4 ha1) rfl (by decide) ?_
  refine wp_run 1 (pc' := 61) (ls' := [(2, 39), (2, a1)]) (st' := [(2, a1)]) rfl ?_
  refine wp_gf (pc' := 64) (t := 2) (v := (a1 + 5)) rfl rfl (by decide) rfl (z_hl0 ha1) (z_cpq (by have := z_hr ha1; omega) (z_cpq (by have := z_hr ha1; omega) (z_cpq (by have := z_hr ha1; omega) (z_cpq (by have := z_hr ha1; omega) (z_hf4 ha1))))) ?_
  refine wp_run 2 (pc' := 66) (ls' := [(2, 39), (2, a1)]) (st' := [(2, 39), (0, 0), (2, (a1 + 5))]) rfl ?_
  refine wp_gf (pc' := 69) (t := 2) (v := 44) rfl rfl (by decide) rfl rfl (z_cpq (by decide) (z_cpq (by decide) (z_cpq (by decide) (z_cpq (by decide) (fx_39_4 hF))))) ?_
  refine wp_run 2 (pc' := 71) (ls' := [(2, 39), (2, a1)]) (st' := [(2, 39), (0, 0), (2, 44), (0, 0), (2, (a1 + 5))]) rfl ?_
  refine wp_gf (pc' := 74) (t := 2) (v := 44) rfl rfl (by decide) rfl rfl (z_cpq (by decide) (z_cpq (by decide) (z_cpq (by decide) (z_cpq (by decide) (fx_39_4 hF))))) ?_
  refine wp_len (pc' := 75) rfl rfl rfl (by decide) ?_
  refine wp_acp (pc' := 78) rfl rfl (z_hl5 ha1) rfl (by decide) ?_
  refine wp_run 2 (pc' := 80) (ls' := [(2, 39), (2, a1)]) (st' := [(2, a1), (2, 39)]) rfl ?_
  refine wp_gf (pc' := 83) (t := 0) (v := (M a1 5)) rfl rfl (by decide) rfl (z_hl0 ha1) (z_cpq (by have := z_hr ha1; omega) (z_cpq (by have := z_hr ha1; omega) (z_cpq (by have := z_hr ha1; omega) (z_cpq (by have := z_hr ha1; omega) (z_cpq (by have := z_hr ha1; omega) rfl))))) ?_
  refine wp_pf (pc' := 86) rfl rfl rfl rfl (fun z => absurd z (by decide)) (fun z => absurd z (by decide)) ?_
  refine wp_run 2 (pc' := 88) (ls' := [(2, 39), (2, a1)]) (st' := [(2, a1), (2, 39)]) rfl ?_
  refine wp_gf (pc' := 91) (t := 0) (v := (M a1 6)) rfl rfl (by decide) rfl (z_hl0 ha1) (z_upq (by have := z_hr ha1; omega) (z_cpq (by have := z_hr ha1; omega) (z_cpq (by have := z_hr ha1; omega) (z_cpq (by have := z_hr ha1; omega) (z_cpq (by have := z_hr ha1; omega) (z_cpq (by have := z_hr ha1; omega) rfl)))))) ?_
  refine wp_pf (pc' := 94) rfl rfl rfl rfl (fun z => absurd z (by decide)) (fun z => absurd z (by decide)) ?_
  refine wp_run 2 (pc' := 96) (ls' := [(2, 39), (2, a1)]) (st' := [(2, a1), (2, 39)]) rfl ?_
  refine wp_gf (pc' := 99) (t := 0) (v := (M a1 7)) rfl rfl (by decide) rfl (z_hl0 ha1) (z_upq (by have := z_hr ha1; omega) (z_upq (by have := z_hr ha1; omega) (z_cpq (by have := z_hr ha1; omega) (z_cpq (by have := z_hr ha1; omega) (z_cpq (by have := z_hr ha1; omega) (z_cpq (by have := z_hr ha1; omega) (z_cpq (by have := z_hr ha1; omega) rfl))))))) ?_
  refine wp_pf (pc' := 102) rfl rfl rfl rfl (fun z => absurd z (by decide)) (fun z => absurd z (by decide)) ?_
  refine wp_ret rfl rfl ?_
  show wp xs _ mX0_mixesFrom 8 [(2, 38), (2, a1), (0, a2), (3, 0)] [] z_LL (z_up (z_up (z_up (z_cpy (z_cpy (z_cpy (z_cpy (z_cpy M (a1 + 1) 0 40 0 6) (a1 + 2) 0 41 0 6) (a1 + 3) 0 42 0 25) (a1 + 4) 0 43 0 25) (a1 + 5) 0 44 0 36) 39 5 (M a1 5)) 39 6 (M a1 6)) 39 7 (M a1 7)) _
  refine wp_run 1 (pc' := 9) (ls' := [(2, 38), (2, a1), (0, a2), (3, 0)]) (st' := [(2, 38)]) rfl ?_
  refine wp_gf (pc' := 12) (t := 2) (v := 39) rfl rfl (by decide) rfl rfl (z_upq (by decide) (z_upq (by decide) (z_upq (by decide) (z_cpq (by decide) (z_cpq (by decide) (z_cpq (by decide) (z_cpq (by decide) (z_cpq (by decide) (fx_38_1 hF))))))))) ?_
  refine wp_gf (pc' := 15) (t := 2) (v := 40) rfl rfl (by decide) rfl rfl (z_upi (by decide) (z_upi (by decide) (z_upi (by decide) (z_cpq (by decide) (z_cpq (by decide) (z_cpq (by decide) (z_cpq (by decide) (z_cpq (by decide) (fx_39_0 hF))))))))) ?_
  refine wp_run 1 (pc' := 16) (ls' := [(2, 38), (2, a1), (0, a2), (3, 0)]) (st' := [(2, 38), (2, 40)]) rfl ?_
  refine wp_gf (pc' := 19) (t := 0) (v := (M 38 4)) rfl rfl (by decide) rfl rfl (z_upq (by decide) (z_upq (by decide) (z_upq (by decide) (z_cpq (by decide) (z_cpq (by decide) (z_cpq (by decide) (z_cpq (by decide) (z_cpq (by decide) rfl)))))))) ?_
  refine wp_run 1 (pc' := 20) (ls' := [(2, 38), (2, a1), (0, a2), (3, 0)]) (st' := [(0, a2), (0, (M 38 4)), (2, 40)]) rfl ?_
  refine wp_iast (pc' := 21) rfl rfl rfl (b1) ?_
  refine wp_run 2 (pc' := 23) (ls' := [(2, 38), (2, a1), (0, a2), (0, 0)]) (st' := []) rfl ?_
  exact l1
set_option maxRecDepth 20000 in
theorem gX0_mixesFrom_23 {xs : List Int} {d : Nat} {M : z_M} {P : Option z_V → z_L → z_M → Prop} {x1 : Int} {x2 : Int} {x3 : Int} (hF : z_fix M) (hx1 : z_her M x1) (hg2 : z_gor M (M 34 3))
    (b1 : ((M 38 7) ≤ x3) → ((M 38 5) ≤ (M 38 4)) → 0 ≤ (z_w ((z_w ((M 38 5) * 6)) + (M 38 4))) ∧ (z_w ((z_w ((M 38 5) * 6)) + (M 38 4))) < 36)
    (l1 : ((M 38 7) ≤ x3) → ((M 38 5) ≤ (M 38 4)) → ((M 38 5) ≤ (M 38 4)) → P (some (0, (z_w ((M 44 (z_w ((z_w ((M 38 5) * 6)) + (M 38 4)))) - (M (x1 + 5) (z_w ((z_w ((M 38 5) * 6)) + (M 38 4)))))))) z_LL M)
    (b2 : ((M 38 7) ≤ x3) → ((M 38 5) ≤ (M 38 4)) → (¬ ((M 38 5) ≤ (M 38 4))) → 0 ≤ (z_w ((z_w ((M 38 4) * 6)) + (M 38 5))) ∧ (z_w ((z_w ((M 38 4) * 6)) + (M 38 5))) < 36)
    (l2 : ((M 38 7) ≤ x3) → ((M 38 5) ≤ (M 38 4)) → (¬ ((M 38 5) ≤ (M 38 4))) → P (some (0, (z_w ((M 44 (z_w ((z_w ((M 38 5) * 6)) + (M 38 4)))) - (M (x1 + 5) (z_w ((z_w ((M 38 4) * 6)) + (M 38 5)))))))) z_LL M)
    (b3 : ((M 38 7) ≤ x3) → (¬ ((M 38 5) ≤ (M 38 4))) → 0 ≤ (z_w ((z_w ((M 38 4) * 6)) + (M 38 5))) ∧ (z_w ((z_w ((M 38 4) * 6)) + (M 38 5))) < 36)
    (b4 : ((M 38 7) ≤ x3) → (¬ ((M 38 5) ≤ (M 38 4))) → ((M 38 5) ≤ (M 38 4)) → 0 ≤ (z_w ((z_w ((M 38 5) * 6)) + (M 38 4))) ∧ (z_w ((z_w ((M 38 5) * 6)) + (M 38 4))) < 36)
    (l3 : ((M 38 7) ≤ x3) → (¬ ((M 38 5) ≤ (M 38 4))) → ((M 38 5) ≤ (M 38 4)) → P (some (0, (z_w ((M 44 (z_w ((z_w ((M 38 4) * 6)) + (M 38 5)))) - (M (x1 + 5) (z_w ((z_w ((M 38 5) * 6)) + (M 38 4)))))))) z_LL M)
    (l4 : ((M 38 7) ≤ x3) → (¬ ((M 38 5) ≤ (M 38 4))) → (¬ ((M 38 5) ≤ (M 38 4))) → P (some (0, (z_w ((M 44 (z_w ((z_w ((M 38 4) * 6)) + (M 38 5)))) - (M (x1 + 5) (z_w ((z_w ((M 38 4) * 6)) + (M 38 5)))))))) z_LL M)
    (l5 : (¬ ((M 38 7) ≤ x3)) → wp xs (d + 1) mX8_pass 0 [(2, 34), (2, 39), (0, (M (M 34 3) 18)), (3, 0)] [] z_LL M (fun r L1 M1 => wp xs (d + 2) mX0_mixesFrom 52 [(2, 38), (2, x1), (0, x2), (0, x3)] (z_ol r ++ []) L1 M1 P)) :
    wp xs (d + 2) mX0_mixesFrom 23 [(2, 38), (2, x1), (0, x2), (0, x3)] [] z_LL M P := by
  refine wp_run 2 (pc' := 25) (ls' := [(2, 38), (2, x1), (0, x2), (0, x3)]) (st' := [(2, 38), (0, x3)]) rfl ?_
  refine wp_gf (pc' := 28) (t := 0) (v := (M 38 7)) rfl rfl (by decide) rfl rfl rfl ?_
  refine wp_if2 rfl rfl rfl (fun (c1 : (M 38 7) ≤ x3) => ?_) (fun (c1 : ¬ ((M 38 7) ≤ x3)) => ?_)
  · refine wp_run 1 (pc' := 60) (ls' := [(2, 38), (2, x1), (0, x2), (0, x3)]) (st' := [(2, 38)]) rfl ?_
    refine wp_gf (pc' := 63) (t := 2) (v := 39) rfl rfl (by decide) rfl rfl (fx_38_1 hF) ?_
    refine wp_run 1 (pc' := 64) (ls' := [(2, 38), (2, x1), (0, x2), (0, x3)]) (st' := [(2, 38), (2, 39)]) rfl ?_
    refine wp_gf (pc' := 67) (t := 0) (v := (M 38 4)) rfl rfl (by decide) rfl rfl rfl ?_
    refine wp_run 1 (pc' := 68) (ls' := [(2, 38), (2, x1), (0, x2), (0, x3)]) (st' := [(2, 38), (0, (M 38 4)), (2, 39)]) rfl ?_
    refine wp_gf (pc' := 71) (t := 0) (v := (M 38 5)) rfl rfl (by decide) rfl rfl rfl ?_
    refine wp_callv (pc' := 74) (as := [(2, 39), (0, (M 38 4)), (0, (M 38 5))]) (rest := []) (ls1 := [(2, 39), (0, (M 38 4)), (0, (M 38 5))]) rfl rfl rfl rfl rfl rfl ?_
    refine wp_run 1 (pc' := 1) (ls' := [(2, 39), (0, (M 38 4)), (0, (M 38 5))]) (st' := [(2, 39)]) rfl ?_
    refine wp_gf (pc' := 4) (t := 2) (v := 44) rfl rfl (by decide) rfl rfl (fx_39_4 hF) ?_
    refine wp_run 2 (pc' := 6) (ls' := [(2, 39), (0, (M 38 4)), (0, (M 38 5))]) (st' := [(0, (M 38 5)), (0, (M 38 4)), (2, 44)]) rfl ?_
    refine wp_callv (pc' := 9) (as := [(0, (M 38 4)), (0, (M 38 5))]) (rest := [(2, 44)]) (ls1 := [(0, (M 38 4)), (0, (M 38 5))]) rfl rfl rfl rfl rfl rfl ?_
    refine wp_run 2 (pc' := 2) (ls' := [(0, (M 38 4)), (0, (M 38 5))]) (st' := [(0, (M 38 5)), (0, (M 38 4))]) rfl ?_
    refine wp_if2 rfl rfl rfl (fun (c2 : (M 38 5) ≤ (M 38 4)) => ?_) (fun (c2 : ¬ ((M 38 5) ≤ (M 38 4))) => ?_)
    · refine wp_run 5 (pc' := 20) (ls' := [(0, (M 38 4)), (0, (M 38 5))]) (st' := [(0, (z_w ((z_w ((M 38 5) * 6)) + (M 38 4))))]) rfl ?_
      refine wp_ret rfl rfl ?_
      show wp xs _ mX2_mixedOf 9 [(2, 39), (0, (M 38 4)), (0, (M 38 5))] [(0, (z_w ((z_w ((M 38 5) * 6)) + (M 38 4)))), (2, 44)] z_LL M _
      refine wp_iald (pc' := 10) (v := (M 44 (z_w ((z_w ((M 38 5) * 6)) + (M 38 4))))) rfl rfl rfl (b1 c1 c2) rfl ?_
      refine wp_ret rfl rfl ?_
      show wp xs _ mX0_mixesFrom 74 [(2, 38), (2, x1), (0, x2), (0, x3)] [(0, (M 44 (z_w ((z_w ((M 38 5) * 6)) + (M 38 4)))))] z_LL M _
      refine wp_run 2 (pc' := 76) (ls' := [(2, 38), (2, x1), (0, x2), (0, x3)]) (st' := [(2, 38), (2, x1), (0, (M 44 (z_w ((z_w ((M 38 5) * 6)) + (M 38 4)))))]) rfl ?_
      refine wp_gf (pc' := 79) (t := 0) (v := (M 38 4)) rfl rfl (by decide) rfl rfl rfl ?_
      refine wp_run 1 (pc' := 80) (ls' := [(2, 38), (2, x1), (0, x2), (0, x3)]) (st' := [(2, 38), (0, (M 38 4)), (2, x1), (0, (M 44 (z_w ((z_w ((M 38 5) * 6)) + (M 38 4)))))]) rfl ?_
      refine wp_gf (pc' := 83) (t := 0) (v := (M 38 5)) rfl rfl (by decide) rfl rfl rfl ?_
      refine wp_callv (pc' := 86) (as := [(2, x1), (0, (M 38 4)), (0, (M 38 5))]) (rest := [(0, (M 44 (z_w ((z_w ((M 38 5) * 6)) + (M 38 4)))))]) (ls1 := [(2, x1), (0, (M 38 4)), (0, (M 38 5))]) rfl rfl rfl rfl (z_args_v rfl rfl rfl rfl (Nat.le_of_ble_eq_true rfl) rfl (by decide) (z_hl0 hx1)) rfl ?_
      refine wp_run 1 (pc' := 1) (ls' := [(2, x1), (0, (M 38 4)), (0, (M 38 5))]) (st' := [(2, x1)]) rfl ?_
      refine wp_gf (pc' := 4) (t := 2) (v := (x1 + 5)) rfl rfl (by decide) rfl (z_hl0 hx1) (z_hf4 hx1) ?_
      refine wp_run 2 (pc' := 6) (ls' := [(2, x1), (0, (M 38 4)), (0, (M 38 5))]) (st' := [(0, (M 38 5)), (0, (M 38 4)), (2, (x1 + 5))]) rfl ?_
      refine wp_callv (pc' := 9) (as := [(0, (M 38 4)), (0, (M 38 5))]) (rest := [(2, (x1 + 5))]) (ls1 := [(0, (M 38 4)), (0, (M 38 5))]) rfl rfl rfl rfl rfl rfl ?_
      refine wp_run 2 (pc' := 2) (ls' := [(0, (M 38 4)), (0, (M 38 5))]) (st' := [(0, (M 38 5)), (0, (M 38 4))]) rfl ?_
      refine wp_if2 rfl rfl rfl (fun (c3 : (M 38 5) ≤ (M 38 4)) => ?_) (fun (c3 : ¬ ((M 38 5) ≤ (M 38 4))) => ?_)
      · refine wp_run 5 (pc' := 20) (ls' := [(0, (M 38 4)), (0, (M 38 5))]) (st' := [(0, (z_w ((z_w ((M 38 5) * 6)) + (M 38 4))))]) rfl ?_
        refine wp_ret rfl rfl ?_
        show wp xs _ mX2_mixedOf 9 [(2, x1), (0, (M 38 4)), (0, (M 38 5))] [(0, (z_w ((z_w ((M 38 5) * 6)) + (M 38 4)))), (2, (x1 + 5))] z_LL M _
        refine wp_iald (pc' := 10) (v := (M (x1 + 5) (z_w ((z_w ((M 38 5) * 6)) + (M 38 4))))) rfl rfl (z_hl5 hx1) (b1 c1 c2) rfl ?_
        refine wp_ret rfl rfl ?_
        show wp xs _ mX0_mixesFrom 86 [(2, 38), (2, x1), (0, x2), (0, x3)] [(0, (M (x1 + 5) (z_w ((z_w ((M 38 5) * 6)) + (M 38 4))))), (0, (M 44 (z_w ((z_w ((M 38 5) * 6)) + (M 38 4)))))] z_LL M _
        refine wp_run 1 (pc' := 87) (ls' := [(2, 38), (2, x1), (0, x2), (0, x3)]) (st' := [(0, (z_w ((M 44 (z_w ((z_w ((M 38 5) * 6)) + (M 38 4)))) - (M (x1 + 5) (z_w ((z_w ((M 38 5) * 6)) + (M 38 4)))))))]) rfl ?_
        exact wp_ret rfl rfl (l1 c1 c2 c3)
      · refine wp_run 6 (pc' := 20) (ls' := [(0, (M 38 4)), (0, (M 38 5))]) (st' := [(0, (z_w ((z_w ((M 38 4) * 6)) + (M 38 5))))]) rfl ?_
        refine wp_ret rfl rfl ?_
        show wp xs _ mX2_mixedOf 9 [(2, x1), (0, (M 38 4)), (0, (M 38 5))] [(0, (z_w ((z_w ((M 38 4) * 6)) + (M 38 5)))), (2, (x1 + 5))] z_LL M _
        refine wp_iald (pc' := 10) (v := (M (x1 + 5) (z_w ((z_w ((M 38 4) * 6)) + (M 38 5))))) rfl rfl (z_hl5 hx1) (b2 c1 c2 c3) rfl ?_
        refine wp_ret rfl rfl ?_
        show wp xs _ mX0_mixesFrom 86 [(2, 38), (2, x1), (0, x2), (0, x3)] [(0, (M (x1 + 5) (z_w ((z_w ((M 38 4) * 6)) + (M 38 5))))), (0, (M 44 (z_w ((z_w ((M 38 5) * 6)) + (M 38 4)))))] z_LL M _
        refine wp_run 1 (pc' := 87) (ls' := [(2, 38), (2, x1), (0, x2), (0, x3)]) (st' := [(0, (z_w ((M 44 (z_w ((z_w ((M 38 5) * 6)) + (M 38 4)))) - (M (x1 + 5) (z_w ((z_w ((M 38 4) * 6)) + (M 38 5)))))))]) rfl ?_
        exact wp_ret rfl rfl (l2 c1 c2 c3)
    · refine wp_run 6 (pc' := 20) (ls' := [(0, (M 38 4)), (0, (M 38 5))]) (st' := [(0, (z_w ((z_w ((M 38 4) * 6)) + (M 38 5))))]) rfl ?_
      refine wp_ret rfl rfl ?_
      show wp xs _ mX2_mixedOf 9 [(2, 39), (0, (M 38 4)), (0, (M 38 5))] [(0, (z_w ((z_w ((M 38 4) * 6)) + (M 38 5)))), (2, 44)] z_LL M _
      refine wp_iald (pc' := 10) (v := (M 44 (z_w ((z_w ((M 38 4) * 6)) + (M 38 5))))) rfl rfl rfl (b3 c1 c2) rfl ?_
      refine wp_ret rfl rfl ?_
      show wp xs _ mX0_mixesFrom 74 [(2, 38), (2, x1), (0, x2), (0, x3)] [(0, (M 44 (z_w ((z_w ((M 38 4) * 6)) + (M 38 5)))))] z_LL M _
      refine wp_run 2 (pc' := 76) (ls' := [(2, 38), (2, x1), (0, x2), (0, x3)]) (st' := [(2, 38), (2, x1), (0, (M 44 (z_w ((z_w ((M 38 4) * 6)) + (M 38 5)))))]) rfl ?_
      refine wp_gf (pc' := 79) (t := 0) (v := (M 38 4)) rfl rfl (by decide) rfl rfl rfl ?_
      refine wp_run 1 (pc' := 80) (ls' := [(2, 38), (2, x1), (0, x2), (0, x3)]) (st' := [(2, 38), (0, (M 38 4)), (2, x1), (0, (M 44 (z_w ((z_w ((M 38 4) * 6)) + (M 38 5)))))]) rfl ?_
      refine wp_gf (pc' := 83) (t := 0) (v := (M 38 5)) rfl rfl (by decide) rfl rfl rfl ?_
      refine wp_callv (pc' := 86) (as := [(2, x1), (0, (M 38 4)), (0, (M 38 5))]) (rest := [(0, (M 44 (z_w ((z_w ((M 38 4) * 6)) + (M 38 5)))))]) (ls1 := [(2, x1), (0, (M 38 4)), (0, (M 38 5))]) rfl rfl rfl rfl (z_args_v rfl rfl rfl rfl (Nat.le_of_ble_eq_true rfl) rfl (by decide) (z_hl0 hx1)) rfl ?_
      refine wp_run 1 (pc' := 1) (ls' := [(2, x1), (0, (M 38 4)), (0, (M 38 5))]) (st' := [(2, x1)]) rfl ?_
      refine wp_gf (pc' := 4) (t := 2) (v := (x1 + 5)) rfl rfl (by decide) rfl (z_hl0 hx1) (z_hf4 hx1) ?_
      refine wp_run 2 (pc' := 6) (ls' := [(2, x1), (0, (M 38 4)), (0, (M 38 5))]) (st' := [(0, (M 38 5)), (0, (M 38 4)), (2, (x1 + 5))]) rfl ?_
      refine wp_callv (pc' := 9) (as := [(0, (M 38 4)), (0, (M 38 5))]) (rest := [(2, (x1 + 5))]) (ls1 := [(0, (M 38 4)), (0, (M 38 5))]) rfl rfl rfl rfl rfl rfl ?_
      refine wp_run 2 (pc' := 2) (ls' := [(0, (M 38 4)), (0, (M 38 5))]) (st' := [(0, (M 38 5)), (0, (M 38 4))]) rfl ?_
      refine wp_if2 rfl rfl rfl (fun (c4 : (M 38 5) ≤ (M 38 4)) => ?_) (fun (c4 : ¬ ((M 38 5) ≤ (M 38 4))) => ?_)
      · refine wp_run 5 (pc' := 20) (ls' := [(0, (M 38 4)), (0, (M 38 5))]) (st' := [(0, (z_w ((z_w ((M 38 5) * 6)) + (M 38 4))))]) rfl ?_
        refine wp_ret rfl rfl ?_
        show wp xs _ mX2_mixedOf 9 [(2, x1), (0, (M 38 4)), (0, (M 38 5))] [(0, (z_w ((z_w ((M 38 5) * 6)) + (M 38 4)))), (2, (x1 + 5))] z_LL M _
        refine wp_iald (pc' := 10) (v := (M (x1 + 5) (z_w ((z_w ((M 38 5) * 6)) + (M 38 4))))) rfl rfl (z_hl5 hx1) (b4 c1 c2 c4) rfl ?_
        refine wp_ret rfl rfl ?_
        show wp xs _ mX0_mixesFrom 86 [(2, 38), (2, x1), (0, x2), (0, x3)] [(0, (M (x1 + 5) (z_w ((z_w ((M 38 5) * 6)) + (M 38 4))))), (0, (M 44 (z_w ((z_w ((M 38 4) * 6)) + (M 38 5)))))] z_LL M _
        refine wp_run 1 (pc' := 87) (ls' := [(2, 38), (2, x1), (0, x2), (0, x3)]) (st' := [(0, (z_w ((M 44 (z_w ((z_w ((M 38 4) * 6)) + (M 38 5)))) - (M (x1 + 5) (z_w ((z_w ((M 38 5) * 6)) + (M 38 4)))))))]) rfl ?_
        exact wp_ret rfl rfl (l3 c1 c2 c4)
      · refine wp_run 6 (pc' := 20) (ls' := [(0, (M 38 4)), (0, (M 38 5))]) (st' := [(0, (z_w ((z_w ((M 38 4) * 6)) + (M 38 5))))]) rfl ?_
        refine wp_ret rfl rfl ?_
        show wp xs _ mX2_mixedOf 9 [(2, x1), (0, (M 38 4)), (0, (M 38 5))] [(0, (z_w ((z_w ((M 38 4) * 6)) + (M 38 5)))), (2, (x1 + 5))] z_LL M _
        refine wp_iald (pc' := 10) (v := (M (x1 + 5) (z_w ((z_w ((M 38 4) * 6)) + (M 38 5))))) rfl rfl (z_hl5 hx1) (b3 c1 c2) rfl ?_
        refine wp_ret rfl rfl ?_
        show wp xs _ mX0_mixesFrom 86 [(2, 38), (2, x1), (0, x2), (0, x3)] [(0, (M (x1 + 5) (z_w ((z_w ((M 38 4) * 6)) + (M 38 5))))), (0, (M 44 (z_w ((z_w ((M 38 4) * 6)) + (M 38 5)))))] z_LL M _
        refine wp_run 1 (pc' := 87) (ls' := [(2, 38), (2, x1), (0, x2), (0, x3)]) (st' := [(0, (z_w ((M 44 (z_w ((z_w ((M 38 4) * 6)) + (M 38 5)))) - (M (x1 + 5) (z_w ((z_w ((M 38 4) * 6)) + (M 38 5)))))))]) rfl ?_
        exact wp_ret rfl rfl (l4 c1 c2 c4)
  · refine wp_run 1 (pc' := 32) (ls' := [(2, 38), (2, x1), (0, x2), (0, x3)]) (st' := [(2, 38)]) rfl ?_
    refine wp_gf (pc' := 35) (t := 2) (v := 34) rfl rfl (by decide) rfl rfl (fx_38_0 hF) ?_
    refine wp_run 1 (pc' := 36) (ls' := [(2, 38), (2, x1), (0, x2), (0, x3)]) (st' := [(2, 38), (2, 34)]) rfl ?_
    refine wp_gf (pc' := 39) (t := 2) (v := 39) rfl rfl (by decide) rfl rfl (fx_38_1 hF) ?_
    refine wp_run 1 (pc' := 40) (ls' := [(2, 38), (2, x1), (0, x2), (0, x3)]) (st' := [(2, 38), (2, 39), (2, 34)]) rfl ?_
    refine wp_gf (pc' := 43) (t := 2) (v := 34) rfl rfl (by decide) rfl rfl (fx_38_0 hF) ?_
    refine wp_gf (pc' := 46) (t := 2) (v := (M 34 3)) rfl rfl (by decide) rfl rfl rfl ?_
    refine wp_gf (pc' := 49) (t := 0) (v := (M (M 34 3) 18)) rfl rfl (by decide) rfl (z_gl0 hg2) rfl ?_
    refine wp_callv (pc' := 52) (as := [(2, 34), (2, 39), (0, (M (M 34 3) 18))]) (rest := []) (ls1 := [(2, 34), (2, 39), (0, (M (M 34 3) 18)), (3, 0)]) rfl rfl rfl rfl rfl rfl ?_
    exact l5 c1
set_option maxRecDepth 20000 in
theorem gX0_mixesFrom_52 {xs : List Int} {d : Nat} {M : z_M} {P : Option z_V → z_L → z_M → Prop} {x1 : Int} {x2 : Int} {x3 : Int} {s0 : Int} (hx1 : z_her M x1)
    (l1 : wp xs d mX0_mixesFrom 23 [(2, 38), (2, x1), (0, x2), (0, (z_w (x3 + 1)))] [] z_LL M P) :
    wp xs d mX0_mixesFrom 52 [(2, 38), (2, x1), (0, x2), (0, x3)] [(0, s0)] z_LL M P := by
  refine wp_run 3 (pc' := 23) (ls' := [(2, 38), (2, x1), (0, x2), (0, (z_w (x3 + 1)))]) (st' := []) rfl ?_
  exact l1
set_option maxRecDepth 20000 in
theorem gX10_lead_0 {xs : List Int} {d : Nat} {M : z_M} {P : Option z_V → z_L → z_M → Prop} {a1 : Int} {a2 : Int} {a3 : Int} {a4 : Int} (hF : z_fix M) (hC : z_mc M) 
    (l1 : (¬ ((0 ≤ a1 ∧ a1 < M 321 48) ∧ (0 ≤ a2 ∧ a2 < M 321 48) ∧ z_cm M a1 a2)) → P (some (0, (-1))) z_LL M)
    (b1 : (((0 ≤ a1 ∧ a1 < M 321 48) ∧ (0 ≤ a2 ∧ a2 < M 321 48) ∧ z_cm M a1 a2)) → 0 ≤ (z_w (6 + a1)) ∧ (z_w (6 + a1)) < 106)
    (l2 : (((0 ≤ a1 ∧ a1 < M 321 48) ∧ (0 ≤ a2 ∧ a2 < M 321 48) ∧ z_cm M a1 a2)) → ((M 342 (z_w (6 + a1))) = 1) → P (some (0, (-1))) z_LL M)
    (l3 : (((0 ≤ a1 ∧ a1 < M 321 48) ∧ (0 ≤ a2 ∧ a2 < M 321 48) ∧ z_cm M a1 a2)) → (¬ ((M 342 (z_w (6 + a1))) = 1)) → (¬ (1 ≤ a3 ∧ a3 ≤ 20)) → P (some (0, (-1))) z_LL M)
    (b2 : (((0 ≤ a1 ∧ a1 < M 321 48) ∧ (0 ≤ a2 ∧ a2 < M 321 48) ∧ z_cm M a1 a2)) → (¬ ((M 342 (z_w (6 + a1))) = 1)) → ((1 ≤ a3 ∧ a3 ≤ 20)) → ((0 ≤ a4 ∧ a4 ≤ 1)) → 0 ≤ a1 ∧ a1 < 106)
    (l4 : (((0 ≤ a1 ∧ a1 < M 321 48) ∧ (0 ≤ a2 ∧ a2 < M 321 48) ∧ z_cm M a1 a2)) → (¬ ((M 342 (z_w (6 + a1))) = 1)) → ((1 ≤ a3 ∧ a3 ≤ 20)) → ((0 ≤ a4 ∧ a4 ≤ 1)) → wp xs (d + 2) mX10_mixedFrom 0 [(2, 321), (0, a1), (0, a2), (0, a3), (0, (M 342 a1)), (3, 0)] [] z_LL M (fun r L1 M1 => wp xs (d + 3) mX10_lead 61 [(2, 321), (0, a1), (0, a2), (0, a3), (0, a4), (0, (M 342 a1)), (3, 0), (3, 0), (3, 0)] (z_ol r ++ []) L1 M1 P))
    (l5 : (((0 ≤ a1 ∧ a1 < M 321 48) ∧ (0 ≤ a2 ∧ a2 < M 321 48) ∧ z_cm M a1 a2)) → (¬ ((M 342 (z_w (6 + a1))) = 1)) → ((1 ≤ a3 ∧ a3 ≤ 20)) → (¬ (0 ≤ a4 ∧ a4 ≤ 1)) → P (some (0, (-1))) z_LL M) :
    wp xs (d + 3) mX10_lead 0 [(2, 321), (0, a1), (0, a2), (0, a3), (0, a4), (3, 0), (3, 0), (3, 0), (3, 0)] [] z_LL M P := by
  refine wp_run 3 (pc' := 3) (ls' := [(2, 321), (0, a1), (0, a2), (0, a3), (0, a4), (3, 0), (3, 0), (3, 0), (3, 0)]) (st' := [(0, a2), (0, a1), (2, 321)]) rfl ?_
  refine wp_callv (pc' := 6) (as := [(2, 321), (0, a1), (0, a2)]) (rest := []) (ls1 := [(2, 321), (0, a1), (0, a2)]) rfl rfl rfl rfl rfl rfl ?_
  refine s_X10_areMixing hF hC ?_
  show wp xs _ mX10_lead 6 [(2, 321), (0, a1), (0, a2), (0, a3), (0, a4), (3, 0), (3, 0), (3, 0), (3, 0)] [(0, (z_b ((0 ≤ a1 ∧ a1 < M 321 48) ∧ (0 ≤ a2 ∧ a2 < M 321 48) ∧ z_cm M a1 a2)))] z_LL M _
  refine wp_be rfl rfl rfl (fun (c1 : ¬ ((0 ≤ a1 ∧ a1 < M 321 48) ∧ (0 ≤ a2 ∧ a2 < M 321 48) ∧ z_cm M a1 a2)) => ?_) (fun (c1 : ((0 ≤ a1 ∧ a1 < M 321 48) ∧ (0 ≤ a2 ∧ a2 < M 321 48) ∧ z_cm M a1 a2)) => ?_)
  · refine wp_run 1 (pc' := 43) (ls' := [(2, 321), (0, a1), (0, a2), (0, a3), (0, a4), (3, 0), (3, 0), (3, 0), (3, 0)]) (st' := [(0, (-1))]) rfl ?_
    exact wp_ret rfl rfl (l1 c1)
  · refine wp_run 1 (pc' := 10) (ls' := [(2, 321), (0, a1), (0, a2), (0, a3), (0, a4), (3, 0), (3, 0), (3, 0), (3, 0)]) (st' := [(2, 321)]) rfl ?_
    refine wp_gf (pc' := 13) (t := 2) (v := 342) rfl rfl (by decide) rfl rfl (fx_321_60 hF) ?_
    refine wp_run 3 (pc' := 17) (ls' := [(2, 321), (0, a1), (0, a2), (0, a3), (0, a4), (3, 0), (3, 0), (3, 0), (3, 0)]) (st' := [(0, (z_w (6 + a1))), (2, 342)]) rfl ?_
    refine wp_iald (pc' := 18) (v := (M 342 (z_w (6 + a1)))) rfl rfl rfl (b1 c1) rfl ?_
    refine wp_run 1 (pc' := 19) (ls' := [(2, 321), (0, a1), (0, a2), (0, a3), (0, a4), (3, 0), (3, 0), (3, 0), (3, 0)]) (st' := [(0, 1), (0, (M 342 (z_w (6 + a1))))]) rfl ?_
    refine wp_if2 rfl rfl rfl (fun (c2 : (M 342 (z_w (6 + a1))) = 1) => ?_) (fun (c2 : ¬ ((M 342 (z_w (6 + a1))) = 1)) => ?_)
    · refine wp_run 1 (pc' := 43) (ls' := [(2, 321), (0, a1), (0, a2), (0, a3), (0, a4), (3, 0), (3, 0), (3, 0), (3, 0)]) (st' := [(0, (-1))]) rfl ?_
      exact wp_ret rfl rfl (l2 c1 c2)
    · refine wp_run 3 (pc' := 26) (ls' := [(2, 321), (0, a1), (0, a2), (0, a3), (0, a4), (3, 0), (3, 0), (3, 0), (3, 0)]) (st' := [(0, 20), (0, 1), (0, a3)]) rfl ?_
      refine wp_callv (pc' := 29) (as := [(0, a3), (0, 1), (0, 20)]) (rest := []) (ls1 := [(0, a3), (0, 1), (0, 20)]) rfl rfl rfl rfl rfl rfl ?_
      refine s_X10_isIn  ?_
      show wp xs _ mX10_lead 29 [(2, 321), (0, a1), (0, a2), (0, a3), (0, a4), (3, 0), (3, 0), (3, 0), (3, 0)] [(0, (z_b (1 ≤ a3 ∧ a3 ≤ 20)))] z_LL M _
      refine wp_be rfl rfl rfl (fun (c3 : ¬ (1 ≤ a3 ∧ a3 ≤ 20)) => ?_) (fun (c3 : (1 ≤ a3 ∧ a3 ≤ 20)) => ?_)
      · refine wp_run 1 (pc' := 43) (ls' := [(2, 321), (0, a1), (0, a2), (0, a3), (0, a4), (3, 0), (3, 0), (3, 0), (3, 0)]) (st' := [(0, (-1))]) rfl ?_
        exact wp_ret rfl rfl (l3 c1 c2 c3)
      · refine wp_run 3 (pc' := 36) (ls' := [(2, 321), (0, a1), (0, a2), (0, a3), (0, a4), (3, 0), (3, 0), (3, 0), (3, 0)]) (st' := [(0, 1), (0, 0), (0, a4)]) rfl ?_
        refine wp_callv (pc' := 39) (as := [(0, a4), (0, 0), (0, 1)]) (rest := []) (ls1 := [(0, a4), (0, 0), (0, 1)]) rfl rfl rfl rfl rfl rfl ?_
        refine s_X10_isIn  ?_
        show wp xs _ mX10_lead 39 [(2, 321), (0, a1), (0, a2), (0, a3), (0, a4), (3, 0), (3, 0), (3, 0), (3, 0)] [(0, (z_b (0 ≤ a4 ∧ a4 ≤ 1)))] z_LL M _
        refine wp_bn rfl rfl rfl (fun (c4 : (0 ≤ a4 ∧ a4 ≤ 1)) => ?_) (fun (c4 : ¬ (0 ≤ a4 ∧ a4 ≤ 1)) => ?_)
        · refine wp_run 1 (pc' := 45) (ls' := [(2, 321), (0, a1), (0, a2), (0, a3), (0, a4), (3, 0), (3, 0), (3, 0), (3, 0)]) (st' := [(2, 321)]) rfl ?_
          refine wp_gf (pc' := 48) (t := 2) (v := 342) rfl rfl (by decide) rfl rfl (fx_321_60 hF) ?_
          refine wp_run 1 (pc' := 49) (ls' := [(2, 321), (0, a1), (0, a2), (0, a3), (0, a4), (3, 0), (3, 0), (3, 0), (3, 0)]) (st' := [(0, a1), (2, 342)]) rfl ?_
          refine wp_iald (pc' := 50) (v := (M 342 a1)) rfl rfl rfl (b2 c1 c2 c3 c4) rfl ?_
          refine wp_run 6 (pc' := 58) (ls' := [(2, 321), (0, a1), (0, a2), (0, a3), (0, a4), (0, (M 342 a1)), (3, 0), (3, 0), (3, 0)]) (st' := [(0, (M 342 a1)), (0, a3), (0, a2), (0, a1), (2, 321)]) rfl ?_
          refine wp_callv (pc' := 61) (as := [(2, 321), (0, a1), (0, a2), (0, a3), (0, (M 342 a1))]) (rest := []) (ls1 := [(2, 321), (0, a1), (0, a2), (0, a3), (0, (M 342 a1)), (3, 0)]) rfl rfl rfl rfl rfl rfl ?_
          exact l4 c1 c2 c3 c4
        · refine wp_run 1 (pc' := 43) (ls' := [(2, 321), (0, a1), (0, a2), (0, a3), (0, a4), (3, 0), (3, 0), (3, 0), (3, 0)]) (st' := [(0, (-1))]) rfl ?_
          exact wp_ret rfl rfl (l5 c1 c2 c3 c4)
set_option maxRecDepth 20000 in
theorem gX10_lead_61 {xs : List Int} {d : Nat} {M : z_M} {P : Option z_V → z_L → z_M → Prop} {x1 : Int} {x2 : Int} {x3 : Int} {x4 : Int} {x5 : Int} {s0 : Int} 
    (l1 : wp xs d mX10_lead 66 [(2, 321), (0, x1), (0, x2), (0, x3), (0, x4), (0, x5), (0, s0), (0, 0), (3, 0)] [] z_LL M P) :
    wp xs d mX10_lead 61 [(2, 321), (0, x1), (0, x2), (0, x3), (0, x4), (0, x5), (3, 0), (3, 0), (3, 0)] [(0, s0)] z_LL M P := by
  refine wp_run 3 (pc' := 66) (ls' := [(2, 321), (0, x1), (0, x2), (0, x3), (0, x4), (0, x5), (0, s0), (0, 0), (3, 0)]) (st' := []) rfl ?_
  exact l1
set_option maxRecDepth 20000 in
theorem gX10_lead_66 {xs : List Int} {d : Nat} {M : z_M} {P : Option z_V → z_L → z_M → Prop} {x1 : Int} {x2 : Int} {x3 : Int} {x4 : Int} {x5 : Int} {x6 : Int} {x7 : Int} {w8 : z_V} (hF : z_fix M) (hC : z_mc M) 
    (l1 : ((M 321 46 * M 321 47) ≤ x7) → (x4 ≠ 0) → P (some (0, x6)) z_LL M)
    (l2 : ((M 321 46 * M 321 47) ≤ x7) → (¬ (x4 ≠ 0)) → P (some (0, x5)) z_LL M)
    (b1 : (¬ ((M 321 46 * M 321 47) ≤ x7)) → 0 ≤ x1 ∧ x1 < 106)
    (b2 : (¬ ((M 321 46 * M 321 47) ≤ x7)) → (0 ≤ (M 342 x1) ∧ (M 342 x1) < 25 ∧ 0 ≤ x7 ∧ x7 < 25))
    (l3 : (¬ ((M 321 46 * M 321 47) ≤ x7)) → ((z_far (M 321 46) (M 342 x1) x7) ≠ 1) → (x6 < (-1)) → wp xs (d + 2) mX10_lead 66 [(2, 321), (0, x1), (0, x2), (0, x3), (0, x4), (0, x7), (0, (-1)), (0, (z_w (x7 + 1))), (0, (-1))] [] z_LL M P)
    (l4 : (¬ ((M 321 46 * M 321 47) ≤ x7)) → ((z_far (M 321 46) (M 342 x1) x7) ≠ 1) → (¬ (x6 < (-1))) → wp xs (d + 2) mX10_lead 66 [(2, 321), (0, x1), (0, x2), (0, x3), (0, x4), (0, x5), (0, x6), (0, (z_w (x7 + 1))), (0, (-1))] [] z_LL M P)
    (l5 : (¬ ((M 321 46 * M 321 47) ≤ x7)) → (¬ ((z_far (M 321 46) (M 342 x1) x7) ≠ 1)) → wp xs (d + 1) mX10_mixedFrom 0 [(2, 321), (0, x1), (0, x2), (0, x3), (0, x7), (3, 0)] [] z_LL M (fun r L1 M1 => wp xs (d + 2) mX10_lead 100 [(2, 321), (0, x1), (0, x2), (0, x3), (0, x4), (0, x5), (0, x6), (0, x7), w8] (z_ol r ++ []) L1 M1 P)) :
    wp xs (d + 2) mX10_lead 66 [(2, 321), (0, x1), (0, x2), (0, x3), (0, x4), (0, x5), (0, x6), (0, x7), w8] [] z_LL M P := by
  refine wp_run 2 (pc' := 69) (ls' := [(2, 321), (0, x1), (0, x2), (0, x3), (0, x4), (0, x5), (0, x6), (0, x7), w8]) (st' := [(2, 321), (0, x7)]) rfl ?_
  refine wp_callv (pc' := 72) (as := [(2, 321)]) (rest := [(0, x7)]) (ls1 := [(2, 321)]) rfl rfl rfl rfl rfl rfl ?_
  refine s_X10_all hF hC ?_
  show wp xs _ mX10_lead 72 [(2, 321), (0, x1), (0, x2), (0, x3), (0, x4), (0, x5), (0, x6), (0, x7), w8] [(0, (M 321 46 * M 321 47)), (0, x7)] z_LL M _
  refine wp_if2 rfl rfl rfl (fun (c1 : (M 321 46 * M 321 47) ≤ x7) => ?_) (fun (c1 : ¬ ((M 321 46 * M 321 47) ≤ x7)) => ?_)
  · refine wp_run 1 (pc' := 132) (ls' := [(2, 321), (0, x1), (0, x2), (0, x3), (0, x4), (0, x5), (0, x6), (0, x7), w8]) (st' := [(0, x4)]) rfl ?_
    refine wp_if1 rfl rfl rfl (fun (c2 : x4 ≠ 0) => ?_) (fun (c2 : ¬ (x4 ≠ 0)) => ?_)
    · refine wp_run 1 (pc' := 142) (ls' := [(2, 321), (0, x1), (0, x2), (0, x3), (0, x4), (0, x5), (0, x6), (0, x7), w8]) (st' := [(0, x6)]) rfl ?_
      exact wp_ret rfl rfl (l1 c1 c2)
    · refine wp_run 2 (pc' := 142) (ls' := [(2, 321), (0, x1), (0, x2), (0, x3), (0, x4), (0, x5), (0, x6), (0, x7), w8]) (st' := [(0, x5)]) rfl ?_
      exact wp_ret rfl rfl (l2 c1 c2)
  · refine wp_run 2 (pc' := 77) (ls' := [(2, 321), (0, x1), (0, x2), (0, x3), (0, x4), (0, x5), (0, x6), (0, x7), w8]) (st' := [(2, 321), (2, 321)]) rfl ?_
    refine wp_gf (pc' := 80) (t := 2) (v := 342) rfl rfl (by decide) rfl rfl (fx_321_60 hF) ?_
    refine wp_run 1 (pc' := 81) (ls' := [(2, 321), (0, x1), (0, x2), (0, x3), (0, x4), (0, x5), (0, x6), (0, x7), w8]) (st' := [(0, x1), (2, 342), (2, 321)]) rfl ?_
    refine wp_iald (pc' := 82) (v := (M 342 x1)) rfl rfl rfl (b1 c1) rfl ?_
    refine wp_run 1 (pc' := 84) (ls' := [(2, 321), (0, x1), (0, x2), (0, x3), (0, x4), (0, x5), (0, x6), (0, x7), w8]) (st' := [(0, x7), (0, (M 342 x1)), (2, 321)]) rfl ?_
    refine wp_callv (pc' := 87) (as := [(2, 321), (0, (M 342 x1)), (0, x7)]) (rest := []) (ls1 := [(2, 321), (0, (M 342 x1)), (0, x7)]) rfl rfl rfl rfl rfl rfl ?_
    refine s_X10_farOf hF hC (b2 c1) ?_
    show wp xs _ mX10_lead 87 [(2, 321), (0, x1), (0, x2), (0, x3), (0, x4), (0, x5), (0, x6), (0, x7), w8] [(0, (z_far (M 321 46) (M 342 x1) x7))] z_LL M _
    refine wp_run 1 (pc' := 88) (ls' := [(2, 321), (0, x1), (0, x2), (0, x3), (0, x4), (0, x5), (0, x6), (0, x7), w8]) (st' := [(0, 1), (0, (z_far (M 321 46) (M 342 x1) x7))]) rfl ?_
    refine wp_if2 rfl rfl rfl (fun (c3 : (z_far (M 321 46) (M 342 x1) x7) ≠ 1) => ?_) (fun (c3 : ¬ ((z_far (M 321 46) (M 342 x1) x7) ≠ 1)) => ?_)
    · refine wp_run 4 (pc' := 110) (ls' := [(2, 321), (0, x1), (0, x2), (0, x3), (0, x4), (0, x5), (0, x6), (0, x7), (0, (-1))]) (st' := [(0, x6), (0, (-1))]) rfl ?_
      refine wp_if2 rfl rfl rfl (fun (c4 : x6 < (-1)) => ?_) (fun (c4 : ¬ (x6 < (-1))) => ?_)
      · refine wp_run 6 (pc' := 66) (ls' := [(2, 321), (0, x1), (0, x2), (0, x3), (0, x4), (0, x7), (0, (-1)), (0, (z_w (x7 + 1))), (0, (-1))]) (st' := []) rfl ?_
        exact l3 c1 c3 c4
      · refine wp_run 3 (pc' := 66) (ls' := [(2, 321), (0, x1), (0, x2), (0, x3), (0, x4), (0, x5), (0, x6), (0, (z_w (x7 + 1))), (0, (-1))]) (st' := []) rfl ?_
        exact l4 c1 c3 c4
    · refine wp_run 5 (pc' := 97) (ls' := [(2, 321), (0, x1), (0, x2), (0, x3), (0, x4), (0, x5), (0, x6), (0, x7), w8]) (st' := [(0, x7), (0, x3), (0, x2), (0, x1), (2, 321)]) rfl ?_
      refine wp_callv (pc' := 100) (as := [(2, 321), (0, x1), (0, x2), (0, x3), (0, x7)]) (rest := []) (ls1 := [(2, 321), (0, x1), (0, x2), (0, x3), (0, x7), (3, 0)]) rfl rfl rfl rfl rfl rfl ?_
      exact l5 c1 c3
set_option maxRecDepth 20000 in
theorem gX10_lead_100 {xs : List Int} {d : Nat} {M : z_M} {P : Option z_V → z_L → z_M → Prop} {x1 : Int} {x2 : Int} {x3 : Int} {x4 : Int} {x5 : Int} {x6 : Int} {x7 : Int} {w8 : z_V} {s0 : Int} 
    (l1 : (x6 < s0) → wp xs d mX10_lead 66 [(2, 321), (0, x1), (0, x2), (0, x3), (0, x4), (0, x7), (0, s0), (0, (z_w (x7 + 1))), (0, s0)] [] z_LL M P)
    (l2 : (¬ (x6 < s0)) → wp xs d mX10_lead 66 [(2, 321), (0, x1), (0, x2), (0, x3), (0, x4), (0, x5), (0, x6), (0, (z_w (x7 + 1))), (0, s0)] [] z_LL M P) :
    wp xs d mX10_lead 100 [(2, 321), (0, x1), (0, x2), (0, x3), (0, x4), (0, x5), (0, x6), (0, x7), w8] [(0, s0)] z_LL M P := by
  refine wp_run 4 (pc' := 110) (ls' := [(2, 321), (0, x1), (0, x2), (0, x3), (0, x4), (0, x5), (0, x6), (0, x7), (0, s0)]) (st' := [(0, x6), (0, s0)]) rfl ?_
  refine wp_if2 rfl rfl rfl (fun (c1 : x6 < s0) => ?_) (fun (c1 : ¬ (x6 < s0)) => ?_)
  · refine wp_run 6 (pc' := 66) (ls' := [(2, 321), (0, x1), (0, x2), (0, x3), (0, x4), (0, x7), (0, s0), (0, (z_w (x7 + 1))), (0, s0)]) (st' := []) rfl ?_
    exact l1 c1
  · refine wp_run 3 (pc' := 66) (ls' := [(2, 321), (0, x1), (0, x2), (0, x3), (0, x4), (0, x5), (0, x6), (0, (z_w (x7 + 1))), (0, s0)]) (st' := []) rfl ?_
    exact l2 c1
set_option maxRecDepth 20000 in
theorem gX10_mixedFrom_0 {xs : List Int} {d : Nat} {M : z_M} {P : Option z_V → z_L → z_M → Prop} {a1 : Int} {a2 : Int} {a3 : Int} {a4 : Int} 
    (l1 : wp xs d mX10_load 0 [(2, 321), (3, 0)] [] z_LL M (fun r L1 M1 => wp xs (d + 1) mX10_mixedFrom 4 [(2, 321), (0, a1), (0, a2), (0, a3), (0, a4), (3, 0)] (z_ol r ++ []) L1 M1 P)) :
    wp xs (d + 1) mX10_mixedFrom 0 [(2, 321), (0, a1), (0, a2), (0, a3), (0, a4), (3, 0)] [] z_LL M P := by
  refine wp_run 1 (pc' := 1) (ls' := [(2, 321), (0, a1), (0, a2), (0, a3), (0, a4), (3, 0)]) (st' := [(2, 321)]) rfl ?_
  refine wp_callv (pc' := 4) (as := [(2, 321)]) (rest := []) (ls1 := [(2, 321), (3, 0)]) rfl rfl rfl rfl rfl rfl ?_
  exact l1
set_option maxRecDepth 20000 in
theorem gX10_mixedFrom_4 {xs : List Int} {d : Nat} {M : z_M} {P : Option z_V → z_L → z_M → Prop} {x1 : Int} {x2 : Int} {x3 : Int} {x4 : Int} (hF : z_fix M) 
    (b1 : 0 ≤ x1 ∧ x1 < 106)
    (l1 : wp xs d mX10_mixedFrom 15 [(2, 321), (0, x1), (0, x2), (0, x3), (0, x4), (0, 0)] [] z_LL (z_up M 343 x1 x4) P) :
    wp xs d mX10_mixedFrom 4 [(2, 321), (0, x1), (0, x2), (0, x3), (0, x4), (3, 0)] [] z_LL M P := by
  refine wp_run 1 (pc' := 5) (ls' := [(2, 321), (0, x1), (0, x2), (0, x3), (0, x4), (3, 0)]) (st' := [(2, 321)]) rfl ?_
  refine wp_gf (pc' := 8) (t := 2) (v := 343) rfl rfl (by decide) rfl rfl (fx_321_61 hF) ?_
  refine wp_run 2 (pc' := 11) (ls' := [(2, 321), (0, x1), (0, x2), (0, x3), (0, x4), (3, 0)]) (st' := [(0, x4), (0, x1), (2, 343)]) rfl ?_
  refine wp_iast (pc' := 12) rfl rfl rfl (b1) ?_
  refine wp_run 2 (pc' := 15) (ls' := [(2, 321), (0, x1), (0, x2), (0, x3), (0, x4), (0, 0)]) (st' := []) rfl ?_
  exact l1
set_option maxRecDepth 20000 in
theorem gX10_mixedFrom_15 {xs : List Int} {d : Nat} {M : z_M} {P : Option z_V → z_L → z_M → Prop} {x1 : Int} {x2 : Int} {x3 : Int} {x4 : Int} {x5 : Int} (hF : z_fix M) 
    (b1 : (x3 ≤ x5) → 0 ≤ (z_w ((z_w (18 + (z_w (6 * x1)))) + x2)) ∧ (z_w ((z_w (18 + (z_w (6 * x1)))) + x2)) < 106)
    (l1 : (x3 ≤ x5) → P (some (0, (z_w ((M 343 (z_w ((z_w (18 + (z_w (6 * x1)))) + x2))) - (M 342 (z_w ((z_w (18 + (z_w (6 * x1)))) + x2))))))) z_LL M)
    (l2 : (¬ (x3 ≤ x5)) → wp xs d mX10_goDay 0 [(2, 321), (0, (M 321 52)), (3, 0), (3, 0)] [] z_LL M (fun r L1 M1 => wp xs (d + 1) mX10_mixedFrom 29 [(2, 321), (0, x1), (0, x2), (0, x3), (0, x4), (0, x5)] (z_ol r ++ []) L1 M1 P)) :
    wp xs (d + 1) mX10_mixedFrom 15 [(2, 321), (0, x1), (0, x2), (0, x3), (0, x4), (0, x5)] [] z_LL M P := by
  refine wp_run 2 (pc' := 18) (ls' := [(2, 321), (0, x1), (0, x2), (0, x3), (0, x4), (0, x5)]) (st' := [(0, x3), (0, x5)]) rfl ?_
  refine wp_if2 rfl rfl rfl (fun (c1 : x3 ≤ x5) => ?_) (fun (c1 : ¬ (x3 ≤ x5)) => ?_)
  · refine wp_run 3 (pc' := 39) (ls' := [(2, 321), (0, x1), (0, x2), (0, x3), (0, x4), (0, x5)]) (st' := [(0, x2), (0, x1), (2, 321)]) rfl ?_
    refine wp_callv (pc' := 42) (as := [(2, 321), (0, x1), (0, x2)]) (rest := []) (ls1 := [(2, 321), (0, x1), (0, x2)]) rfl rfl rfl rfl rfl rfl ?_
    refine wp_run 1 (pc' := 1) (ls' := [(2, 321), (0, x1), (0, x2)]) (st' := [(2, 321)]) rfl ?_
    refine wp_gf (pc' := 4) (t := 2) (v := 343) rfl rfl (by decide) rfl rfl (fx_321_61 hF) ?_
    refine wp_run 7 (pc' := 13) (ls' := [(2, 321), (0, x1), (0, x2)]) (st' := [(0, (z_w ((z_w (18 + (z_w (6 * x1)))) + x2))), (2, 343)]) rfl ?_
    refine wp_iald (pc' := 14) (v := (M 343 (z_w ((z_w (18 + (z_w (6 * x1)))) + x2)))) rfl rfl rfl (b1 c1) rfl ?_
    refine wp_run 1 (pc' := 15) (ls' := [(2, 321), (0, x1), (0, x2)]) (st' := [(2, 321), (0, (M 343 (z_w ((z_w (18 + (z_w (6 * x1)))) + x2))))]) rfl ?_
    refine wp_gf (pc' := 18) (t := 2) (v := 342) rfl rfl (by decide) rfl rfl (fx_321_60 hF) ?_
    refine wp_run 7 (pc' := 27) (ls' := [(2, 321), (0, x1), (0, x2)]) (st' := [(0, (z_w ((z_w (18 + (z_w (6 * x1)))) + x2))), (2, 342), (0, (M 343 (z_w ((z_w (18 + (z_w (6 * x1)))) + x2))))]) rfl ?_
    refine wp_iald (pc' := 28) (v := (M 342 (z_w ((z_w (18 + (z_w (6 * x1)))) + x2)))) rfl rfl rfl (b1 c1) rfl ?_
    refine wp_run 1 (pc' := 29) (ls' := [(2, 321), (0, x1), (0, x2)]) (st' := [(0, (z_w ((M 343 (z_w ((z_w (18 + (z_w (6 * x1)))) + x2))) - (M 342 (z_w ((z_w (18 + (z_w (6 * x1)))) + x2))))))]) rfl ?_
    refine wp_ret rfl rfl ?_
    show wp xs _ mX10_mixedFrom 42 [(2, 321), (0, x1), (0, x2), (0, x3), (0, x4), (0, x5)] [(0, (z_w ((M 343 (z_w ((z_w (18 + (z_w (6 * x1)))) + x2))) - (M 342 (z_w ((z_w (18 + (z_w (6 * x1)))) + x2))))))] z_LL M _
    exact wp_ret rfl rfl (l1 c1)
  · refine wp_run 2 (pc' := 23) (ls' := [(2, 321), (0, x1), (0, x2), (0, x3), (0, x4), (0, x5)]) (st' := [(2, 321), (2, 321)]) rfl ?_
    refine wp_gf (pc' := 26) (t := 0) (v := (M 321 52)) rfl rfl (by decide) rfl rfl rfl ?_
    refine wp_callv (pc' := 29) (as := [(2, 321), (0, (M 321 52))]) (rest := []) (ls1 := [(2, 321), (0, (M 321 52)), (3, 0), (3, 0)]) rfl rfl rfl rfl rfl rfl ?_
    exact l2 c1
set_option maxRecDepth 20000 in
theorem gX10_mixedFrom_29 {xs : List Int} {d : Nat} {M : z_M} {P : Option z_V → z_L → z_M → Prop} {x1 : Int} {x2 : Int} {x3 : Int} {x4 : Int} {x5 : Int} {s0 : Int} 
    (l1 : wp xs d mX10_mixedFrom 15 [(2, 321), (0, x1), (0, x2), (0, x3), (0, x4), (0, (z_w (x5 + 1)))] [] z_LL M P) :
    wp xs d mX10_mixedFrom 29 [(2, 321), (0, x1), (0, x2), (0, x3), (0, x4), (0, x5)] [(0, s0)] z_LL M P := by
  refine wp_run 3 (pc' := 15) (ls' := [(2, 321), (0, x1), (0, x2), (0, x3), (0, x4), (0, (z_w (x5 + 1)))]) (st' := []) rfl ?_
  exact l1
section
variable {xs : List Int} {d : Nat} {M : z_M}
/-- how often two have mixed never falls, and grows by one a day at the most -/
theorem z_dys_mx {D ev : Int} {s : Int → Int} (hC : z_mc M) (h : z_sn M D s) {k : Int} (hk : 18 ≤ k ∧ k < 54) (n : Nat) : z_dys M ev s n k ≤ z_dys M ev s (n + 1) k ∧ z_dys M ev s (n + 1) k ≤ z_dys M ev s n k + 1 := by
  have hs := z_dys_sn (ev := ev) hC h n
  rw [z_dys, z_day_mx (D := D + n) hC hk]
  unfold z_d4
  have e := z_evn_b (M := M) (s := z_d3 M (z_dys M ev s n)) (m := 54) (k := k)
  rw [z_d3_mx hC hs (by omega)] at e
  exact e
theorem z_dys_mm {D ev : Int} {s : Int → Int} (hC : z_mc M) (h : z_sn M D s) {k : Int} (hk : 18 ≤ k ∧ k < 54) (n : Nat) : ∀ m : Nat, z_dys M ev s n k ≤ z_dys M ev s (n + m) k ∧ z_dys M ev s (n + m) k ≤ z_dys M ev s n k + m
  | 0 => by
    show z_dys M ev s n k ≤ z_dys M ev s n k ∧ z_dys M ev s n k ≤ z_dys M ev s n k + ((0 : Nat) : Int)
    omega
  | m + 1 => by
    have a := z_dys_mm (ev := ev) hC h hk n m
    have b := z_dys_mx (ev := ev) hC h hk (n + m)
    rw [show n + (m + 1) = n + m + 1 by omega]
    omega
/-- how often a and b mix in so many days, if a is put into a cell now -/
noncomputable def z_mfr (M : z_M) (a b : Int) (m : Nat) (c : Int) : Int := z_dys M (M 321 52) (z_pt (M 342) a c) m (18 + 6 * a + b) - M 342 (18 + 6 * a + b)
theorem z_mfr_q {M' : z_M} (f : z_sc M M') : z_mfr M' = z_mfr M := by
  funext a b m c
  unfold z_mfr
  rw [z_dys_q (z_sc_c f), f.1 342 (by unfold z_sq; omega), z_sc_c f 321 (by unfold z_conf; omega)]
theorem z_mfr_r (hR : z_R M) {a b c : Int} {m : Nat} (ha : 0 ≤ a ∧ a < M 321 48) (hb : 0 ≤ b ∧ b < M 321 48) (hc : 0 ≤ c ∧ c < M 321 46 * M 321 47) : 0 ≤ z_mfr M a b m c ∧ z_mfr M a b m c ≤ m := by
  have hn := (z_R_C hR).2.2.1
  have h := z_dys_mm (ev := M 321 52) (z_R_C hR) (z_sn_at (z_R_C hR) (z_R_S hR) ha hc) (k := 18 + 6 * a + b) (by omega) 0 m
  have e : z_dys M (M 321 52) (z_pt (M 342) a c) 0 (18 + 6 * a + b) = M 342 (18 + 6 * a + b) := z_pt_n (by omega)
  rw [e, Nat.zero_add] at h
  unfold z_mfr
  omega
theorem s_X0_mixesFrom {P : Option z_V → z_L → z_M → Prop} {a b c : Int} {m : Nat} (hR : z_R M) (hm : m ≤ 20) (e4 : M 38 4 = a) (e5 : M 38 5 = b) (e7 : M 38 7 = m) (ha : 0 ≤ a ∧ a < M 321 48) (hb : 0 ≤ b ∧ b < M 321 48) (hne : a ≠ b) (hc : 0 ≤ c ∧ c < M 321 46 * M 321 47) (kk : ∀ M' : z_M, z_sc M M' → M' 38 = M 38 → P (some (0, z_mfr M a b m c)) z_LL M') : wp xs (d + 4) mX0_mixesFrom 0 [(2, 38), (2, M 1 2), (0, c), (3, 0)] [] z_LL M P := by
  have he := (z_R_C hR).2.2.2.1
  have hn := (z_R_C hR).2.2.1
  have hx := z_mc_cells (z_R_C hR)
  have hS := z_sn_at (z_R_C hR) (z_R_S hR) ha hc
  have hsn := fun j : Nat => z_dys_sn (ev := M 321 52) (z_R_C hR) hS j
  have g := gX0_mixesFrom_0 (M := M) (xs := xs) (d := d + 3) (P := P) (a1 := M 1 2) (a2 := c) (z_R_F hR) (z_R_H hR).1 (z_hk_ish (z_R_k hR)).2
  rw [e4] at g
  refine g (by omega) ?_
  have f0 : z_sc M (z_up (z_cph M (M 1 2) 39) 40 a c) := z_sc_t z_cph_sc ⟨fun q hq => z_upn (by unfold z_sq at hq; omega), fun j _ => by rw [z_upn (by decide)], fun j _ _ => ⟨by rw [z_upn (by decide)], by rw [z_upn (by decide)]⟩, fun j _ _ => by rw [z_upn (by decide)], fun k _ => by rw [z_upn (by decide)]⟩
  have g0 : z_up (z_cph M (M 1 2) 39) 40 a c 38 = M 38 := by rw [z_upn (by decide), z_cph_o (by omega)]
  have H0 : z_hrd (z_up (z_cph M (M 1 2) 39) 40 a c) 39 (z_dys M (M 321 52) (z_pt (M 342) a c) 0) := by
    refine z_hrd_r1 (z_R_t0 hR) (fun q hq => z_upn (by omega)) (fun f h1 h2 => ?_) (fun k hk => z_pt_n (by omega))
    show z_up (z_cph M (M 1 2) 39) 40 a c 40 f = z_pt (M 342) a c f
    by_cases e : f = a
    · rw [e, z_ups, z_pt_s]
    · rw [z_upi e rfl, z_pt_n e]
      exact ((z_R_t0 hR).2.1 f h1 h2).1
  refine z_loop (W := fun i => ∀ M' : z_M, z_sc M M' → M' 38 = M 38 → z_hrd M' 39 (z_dys M (M 321 52) (z_pt (M 342) a c) i) → wp xs (d + 4) mX0_mixesFrom 23 [(2, 38), (2, M 1 2), (0, c), (0, (i : Int))] [] z_LL M' P) m (fun i hi ih M' f e8 H => ?_) _ f0 g0 H0
  have hR' := z_sc_R f hR
  have q1 : M' 1 = M 1 := f.1 1 (by unfold z_sq; omega)
  have e321 := z_sc_c f 321 (by unfold z_conf; omega)
  have hh : z_her M' (M 1 2) := by rw [← q1]; exact (z_R_H hR').1
  have x1 := z_mxd (z_R_C hR') H ha.1 (by rw [e321]; exact ha.2) hb.1 (by rw [e321]; exact hb.2) hne
  have x2 := z_mxd (z_R_C hR') (z_R_H hR') ha.1 (by rw [e321]; exact ha.2) hb.1 (by rw [e321]; exact hb.2) hne
  rw [f.1 342 (by unfold z_sq; omega), q1] at x2
  have g := gX0_mixesFrom_23 (M := M') (xs := xs) (d := d + 2) (P := P) (x1 := M 1 2) (x2 := c) (x3 := (i : Int)) (z_R_F hR') hh (z_R_G hR').1
  have mr := z_mfr_r (m := i) hR ha hb hc
  simp only [e8, e4, e5, e7, (z_R_G hR').2.1.2.2.2.2.2, e321, show b * 6 = 6 * b by omega, show a * 6 = 6 * a by omega, z_wid (x := 6 * a) (by omega), z_wid (x := 6 * b) (by omega), z_wid (x := 6 * a + b) (by omega), z_wid (x := 6 * b + a) (by omega)] at g
  refine g (fun _ _ => by omega) (fun c1 c2 _ => ?_) (fun _ c2 c3 => absurd c2 c3) (fun _ c2 c3 => absurd c2 c3) (fun _ _ => by omega) (fun _ c2 c3 => absurd c3 c2) (fun _ c2 c3 => absurd c3 c2) (fun c1 c2 _ => ?_) (fun c1 => ?_)
  · obtain rfl : i = m := by omega
    have e : M' 44 (6 * b + a) = z_dys M (M 321 52) (z_pt (M 342) a c) i (18 + 6 * a + b) := x1.1 c2
    rw [e, x2.1 c2]
    unfold z_mfr at mr kk
    rw [z_wid (by omega)]
    exact kk M' f e8
  · obtain rfl : i = m := by omega
    have e : M' 44 (6 * a + b) = z_dys M (M 321 52) (z_pt (M 342) a c) i (18 + 6 * a + b) := x1.2 c2
    rw [e, x2.2 c2]
    unfold z_mfr at mr kk
    rw [z_wid (by omega)]
    exact kk M' f e8
  · refine s_trial hR' H (z_sn_x (z_cfe_c (z_sc_c f)) (hsn i)) (by omega) (by omega) (fun M2 f2 _ fp H2 => ?_)
    refine gX0_mixesFrom_52 (M := M2) (x1 := M 1 2) (by rw [← q1, ← show M2 1 = M' 1 from f2.1 1 (by unfold z_sq; omega)]; exact (z_R_H (z_sc_R f2 hR')).1) ?_
    rw [z_in1 (by omega)]
    refine ih (by omega) M2 (z_sc_t f f2) (by rw [fp.1 38 (by decide) (by decide) (by decide) (by decide) (by decide), e8]) ?_
    rw [z_day_q (z_sc_c f)] at H2
    exact H2
theorem s_X0_bestDrive {P : Option z_V → z_L → z_M → Prop} {a b : Int} {m : Nat} (hR : z_R M) (hm : m ≤ 20) (e4 : M 38 4 = a) (e5 : M 38 5 = b) (e7 : M 38 7 = m) (ha : 0 ≤ a ∧ a < M 321 48) (hb : 0 ≤ b ∧ b < M 321 48) (hne : a ≠ b) (kk : ∀ M' : z_M, z_sc M M' → M' 38 8 = (z_bg (M 321 46) (M 342 a) (z_mfr M a b m) (M 321 46 * M 321 47).toNat).1 → P (some (0, (z_bg (M 321 46) (M 342 a) (z_mfr M a b m) (M 321 46 * M 321 47).toNat).2)) z_LL M') : wp xs (d + 5) mX0_bestDrive 0 [(2, 38), (2, M 1 2), (3, 0), (3, 0), (3, 0), (3, 0), (3, 0)] [] z_LL M P := by
  have hn := (z_R_C hR).2.2.1
  have hx := z_mc_cells (z_R_C hR)
  have at0 := ((z_R_S hR).1 a ha.1 ha.2).1
  have eo : M (M 1 2 + 1) a = M 342 a := (z_R_f hR ha.1 ha.2).1.1
  have g := gX0_bestDrive_0 (M := M) (xs := xs) (d := d + 4) (P := P) (a1 := M 1 2) (z_R_H hR).1
  rw [e4, eo] at g
  refine g (by omega) ?_
  rw [← z_wg_b (z_R_C hR).1 (z_R_C hR).2.1 hx at0] at kk
  generalize ho : M 342 a = own at *
  refine s_X0_mixesFrom hR hm e4 e5 e7 ha hb hne at0 (fun M1 f1 e81 => ?_)
  have hR1 := z_sc_R f1 hR
  have hh : ∀ M' : z_M, z_sc M M' → z_her M' (M 1 2) := fun M' f => by
    have q1 : M' 1 = M 1 := f.1 1 (by unfold z_sq; omega)
    rw [← q1]
    exact (z_R_H (z_sc_R f hR)).1
  have up8 : ∀ (M' : z_M) (v : Int), z_sc M M' → z_sc M (z_up M' 38 8 v) := fun M' v f => z_sc_t f ⟨fun q hq => z_upn (by unfold z_sq at hq; omega), fun j _ => by rw [z_upn (by decide)], fun j _ hj => ⟨z_upi (by omega) rfl, by rw [z_upn (by decide)]⟩, fun j _ _ => by rw [z_upn (by decide)], fun k _ => by rw [z_upn (by decide)]⟩
  refine gX0_bestDrive_19 (x1 := M 1 2) (hh M1 f1) ?_
  refine z_loop (W := fun w => ∀ (M' : z_M) (w5 w6 : z_V), z_sc M M' → (∀ j : Int, j ≠ 8 → M' 38 j = M 38 j) → M' 38 8 = (z_wg (M 321 46) (M 321 47) own (z_mfr M a b m) w).1 → 0 ≤ (z_wg (M 321 46) (M 321 47) own (z_mfr M a b m) w).1 → wp xs (d + 5) mX0_bestDrive 25 [(2, 38), (2, M 1 2), (0, own), (0, (z_wg (M 321 46) (M 321 47) own (z_mfr M a b m) w).2), (0, (w : Int)), w5, w6] [] z_LL M' P) 4 (fun w hw ih M' w5 w6 f u1 u2 u3 => ?_) _ _ _ (up8 M1 _ f1) (fun j hj => by rw [z_upi hj rfl, e81]) (by rw [z_ups]; rfl) (z_mfr_r hR ha hb at0).1
  have hR' := z_sc_R f hR
  have q1 : M' 1 = M 1 := f.1 1 (by unfold z_sq; omega)
  have e321 := z_sc_c f 321 (by unfold z_conf; omega)
  have en : w < 4 → M' (M' 34 3 + 9) (4 * own + w) = z_nb (M 321 46) (M 321 47) own w := fun hw => by
    rw [z_nb_at (z_R_G hR') (by rw [e321]; exact at0) hw, e321]
  have g := gX0_bestDrive_25 (M := M') (xs := xs) (d := d + 4) (P := P) (x1 := M 1 2) (x2 := own) (x3 := (z_wg (M 321 46) (M 321 47) own (z_mfr M a b m) w).2) (x4 := (w : Int)) (w5 := w5) (w6 := w6) (z_R_F hR') (hh M' f) (z_R_G hR').1
  simp only [z_wid (x := own * 4) (by omega), show own * 4 + w = 4 * own + w by omega, z_wid (x := 4 * own + (w : Int)) (by omega), z_in1 (i := w) (by omega)] at g
  refine g (fun c => ?_) (fun _ => by omega) (fun c c2 => ?_) (fun c c2 c3 => ?_) (fun c c2 c3 => ?_)
  · obtain rfl : w = 4 := by omega
    exact kk M' f u2
  · rw [en (by omega)] at c2 ⊢
    have rn := z_nb_r (z_R_C hR).1 (z_R_C hR).2.1 at0 c2
    have ew : z_wg (M 321 46) (M 321 47) own (z_mfr M a b m) (w + 1) = z_wgs (z_mfr M a b m) (z_wg (M 321 46) (M 321 47) own (z_mfr M a b m) w) (z_nb (M 321 46) (M 321 47) own w) := rfl
    generalize z_nb (M 321 46) (M 321 47) own w = p at *
    rw [← q1]
    refine s_X0_mixesFrom (a := a) (b := b) (m := m) hR' hm (by rw [u1 4 (by decide), e4]) (by rw [u1 5 (by decide), e5]) (by rw [u1 7 (by decide), e7]) (by rw [e321]; exact ha) (by rw [e321]; exact hb) hne (by rw [e321]; exact rn) (fun M2 f2 e82 => ?_)
    have f3 := z_sc_t f f2
    rw [z_mfr_q f, q1]
    have pr := z_mfr_r (m := m) hR ha hb rn
    have g := gX0_bestDrive_67 (M := M2) (xs := xs) (d := d + 5) (P := P) (x1 := M 1 2) (x2 := own) (x3 := (z_wg (M 321 46) (M 321 47) own (z_mfr M a b m) w).2) (x4 := (w : Int)) (x5 := p) (w6 := w6) (s0 := z_mfr M a b m p) (hh M2 f3)
    rw [e82, u2, z_in1 (by omega)] at g
    have ih := ih (by omega)
    rw [ew] at ih
    refine g (fun c3 => ?_) (fun c3 => ?_)
    · rw [z_wgs_n (fun q => by have := q.2; omega)] at ih
      exact ih M2 _ _ f3 (fun j hj => by rw [e82]; exact u1 j hj) (by rw [e82]; exact u2) u3
    · rw [z_wgs_y c2 (by omega)] at ih
      exact ih _ _ _ (up8 M2 _ f3) (fun j hj => by rw [z_upi hj rfl, e82]; exact u1 j hj) z_ups pr.1
  · have c2 := Classical.byContradiction c2
    rw [en (by omega)] at c2 ⊢
    have ih := ih (by omega)
    rw [show z_wg (M 321 46) (M 321 47) own (z_mfr M a b m) (w + 1) = z_wg (M 321 46) (M 321 47) own (z_mfr M a b m) w from z_wgs_n (fun q => q.1 c2)] at ih
    exact ih M' _ _ f u1 u2 u3
  · rw [u2] at c3
    omega
theorem s_X10_mixedFrom {P : Option z_V → z_L → z_M → Prop} {a b c : Int} {m : Nat} (hR : z_R M) (hm : m ≤ 20) (ha : 0 ≤ a ∧ a < M 321 48) (hb : 0 ≤ b ∧ b < M 321 48) (hc : 0 ≤ c ∧ c < M 321 46 * M 321 47) (kk : ∀ M' : z_M, z_sc M M' → P (some (0, z_mfr M a b m c)) z_LL M') : wp xs (d + 6) mX10_mixedFrom 0 [(2, 321), (0, a), (0, b), (0, (m : Int)), (0, c), (3, 0)] [] z_LL M P := by
  have hn := (z_R_C hR).2.2.1
  have hS := z_sn_at (z_R_C hR) (z_R_S hR) ha hc
  have hsn := fun j : Nat => z_dys_sn (ev := M 321 52) (z_R_C hR) hS j
  refine gX10_mixedFrom_0 ?_
  refine s_ldR hR (fun M1 f1 e1 => ?_)
  refine gX10_mixedFrom_4 (z_R_F (z_sc_R f1 hR)) (by omega) ?_
  have f2 : z_sc M (z_up M1 343 a c) := z_sc_t f1 ⟨fun q hq => z_upn (by unfold z_sq at hq; omega), fun j _ => by rw [z_upn (by decide)], fun j _ _ => ⟨by rw [z_upn (by decide)], by rw [z_upn (by decide)]⟩, fun j _ _ => by rw [z_upn (by decide)], fun k hk => z_upi (by omega) rfl⟩
  have e2 : z_up M1 343 a c 343 = z_dys M (M 321 52) (z_pt (M 342) a c) 0 := by
    rw [z_upw, e1]
    rfl
  refine z_loop (W := fun i => ∀ M' : z_M, z_sc M M' → M' 343 = z_dys M (M 321 52) (z_pt (M 342) a c) i → wp xs (d + 6) mX10_mixedFrom 15 [(2, 321), (0, a), (0, b), (0, (m : Int)), (0, c), (0, (i : Int))] [] z_LL M' P) m (fun i hi ih M' f e => ?_) _ f2 e2
  have hR' := z_sc_R f hR
  have e321 := z_sc_c f 321 (by unfold z_conf; omega)
  have mr := z_mfr_r (m := i) hR ha hb hc
  have g := gX10_mixedFrom_15 (M := M') (xs := xs) (d := d + 5) (P := P) (x1 := a) (x2 := b) (x3 := (m : Int)) (x4 := c) (x5 := (i : Int)) (z_R_F hR')
  simp only [e, e321, f.1 342 (by unfold z_sq; omega), z_wid (x := 6 * a) (by omega), z_wid (x := 18 + 6 * a) (by omega), z_wid (x := 18 + 6 * a + b) (by omega)] at g
  refine g (fun _ => by omega) (fun c1 => ?_) (fun c1 => ?_)
  · obtain rfl : i = m := by omega
    unfold z_mfr at mr kk
    rw [z_wid (by omega)]
    exact kk M' f
  · have hs := z_sn_x (z_cfe_c (z_sc_c f)) (hsn i)
    rw [← e] at hs
    refine s_air hR' hs (by omega) (fun M3 f3 e3 => ?_)
    refine gX10_mixedFrom_29 ?_
    rw [z_in1 (by omega)]
    refine ih (by omega) M3 (z_sc_t f f3) ?_
    rw [e3, z_day_q (z_sc_c f), e]
    rfl
theorem z_R_ask {a b e m : Int} (hR : z_R M) : z_sc M (z_up (z_up (z_up (z_up M 38 4 a) 38 5 b) 38 6 e) 38 7 m) := ⟨fun q hq => by unfold z_sq at hq; rw [z_upn (by omega), z_upn (by omega), z_upn (by omega), z_upn (by omega)], fun j _ => by rw [z_upn (by decide), z_upn (by decide), z_upn (by decide), z_upn (by decide)], fun j _ hj => ⟨by rw [z_upi (by omega) rfl, z_upi (by omega) rfl, z_upi (by omega) rfl, z_upi (by omega) rfl], by rw [z_upn (by decide), z_upn (by decide), z_upn (by decide), z_upn (by decide)]⟩, fun j _ _ => by rw [z_upn (by decide), z_upn (by decide), z_upn (by decide), z_upn (by decide)], fun k _ => by rw [z_upn (by decide), z_upn (by decide), z_upn (by decide), z_upn (by decide)]⟩
theorem z_ask_v {a b e m : Int} : z_up (z_up (z_up (z_up M 38 4 a) 38 5 b) 38 6 e) 38 7 m 38 4 = a ∧ z_up (z_up (z_up (z_up M 38 4 a) 38 5 b) 38 6 e) 38 7 m 38 5 = b ∧ z_up (z_up (z_up (z_up M 38 4 a) 38 5 b) 38 6 e) 38 7 m 38 6 = e ∧ z_up (z_up (z_up (z_up M 38 4 a) 38 5 b) 38 6 e) 38 7 m 38 7 = m := ⟨by rw [z_upi (by decide) rfl, z_upi (by decide) rfl, z_upi (by decide) rfl, z_ups], by rw [z_upi (by decide) rfl, z_upi (by decide) rfl, z_ups], by rw [z_upi (by decide) rfl, z_ups], z_ups⟩
theorem c_lead {a1 a2 a3 a4 : Int} (hR : z_R M) : z_two xs (d + 200) mX9_lead mX10_lead [(2, 1), (0, a1), (0, a2), (0, a3), (0, a4), (3, 0)] [(2, 321), (0, a1), (0, a2), (0, a3), (0, a4), (3, 0), (3, 0), (3, 0), (3, 0)] M := by
  have hn := (z_R_C hR).2.2.1
  have hx := z_mc_cells (z_R_C hR)
  obtain ⟨n1, n2, n3, n4, n5⟩ := z_R_n hR
  have g := fun P => gX9_lead_0 (M := M) (xs := xs) (d := d + 198) (P := P) (a1 := a1) (a2 := a2) (a3 := a3) (a4 := a4) (z_R_F hR) (z_R_g hR).1 (z_R_H hR).1
  simp only [n3] at g
  have cm := z_R_cm hR a1 a2
  have g2 : ∀ (M2 : z_M) P, z_R M2 → z_sc M M2 → (0 ≤ a1 ∧ a1 < M 321 48) → _ := fun M2 P hR2 f h => by
    have g := gX10_lead_0 (M := M2) (xs := xs) (d := d + 197) (P := P) (a1 := a1) (a2 := a2) (a3 := a3) (a4 := a4) (z_R_F hR2) (z_R_C hR2)
    simp only [z_sc_c f 321 (by unfold z_conf; omega), z_cm_q (z_sc_c f), f.1 342 (by unfold z_sq; omega), z_wid (x := 6 + a1) (by omega)] at g
    exact g
  by_cases h : (z_cmg M (M 1 0) a1 a2 ∧ (1 ≤ a3 ∧ a3 ≤ 20)) ∧ (0 ≤ a4 ∧ a4 ≤ 1) ∧ M 342 (6 + a1) ≠ 1
  · obtain ⟨m, rfl⟩ : ∃ m : Nat, a3 = m := ⟨a3.toNat, by omega⟩
    have h2 := cm.mp h.1.1
    have hne : a1 ≠ a2 := fun e => h2.2.2.1 (by rw [e])
    have at0 := ((z_R_S hR).1 a1 h2.1.1 h2.1.2)
    have ep := (z_R_f hR h2.1.1 h2.1.2).1.2.2
    rw [ep] at g
    refine z_two_q (if a4 = 0 then (z_bg (M 321 46) (M 342 a1) (z_mfr M a1 a2 m) (M 321 46 * M 321 47).toNat).2 else (z_bg (M 321 46) (M 342 a1) (z_mfr M a1 a2 m) (M 321 46 * M 321 47).toNat).1) hR (fun P k => ?_) (fun M1 P f1 hR1 k => ?_)
    · refine g _ (by omega) (fun q => absurd h.1.1 q) (fun _ _ => by omega) (fun _ _ _ => by omega) (fun _ _ _ _ => by omega) (fun _ _ _ _ _ => by omega) (fun _ _ _ _ _ _ => ?_) (fun _ _ _ _ _ q => by omega)
      have f1 := z_R_ask (a := a1) (b := a2) (e := 1) (m := m) hR
      obtain ⟨v4, v5, v6, v7⟩ := z_ask_v (M := M) (a := a1) (b := a2) (e := 1) (m := m)
      have hR1 := z_sc_R f1 hR
      generalize z_up (z_up (z_up (z_up M 38 4 a1) 38 5 a2) 38 6 1) 38 7 m = M1 at *
      have q1 : M1 1 = M 1 := f1.1 1 (by unfold z_sq; omega)
      have e321 := z_sc_c f1 321 (by unfold z_conf; omega)
      rw [← q1]
      refine s_X0_bestDrive hR1 (by omega) v4 v5 v7 (by rw [e321]; exact h2.1) (by rw [e321]; exact h2.2.1) hne (fun M2 f2 e8 => ?_)
      rw [z_mfr_q f1, e321, f1.1 342 (by unfold z_sq; omega)] at e8 ⊢
      have kk := k M2 (z_sc_t f1 f2)
      refine gX9_lead_56 (x1 := a1) (x2 := a2) (x3 := (m : Int)) (x4 := a4) (s0 := (z_bg (M 321 46) (M 342 a1) (z_mfr M a1 a2 m) (M 321 46 * M 321 47).toNat).2) (z_R_F (z_sc_R f2 hR1)) (fun c => ?_) (fun c => ?_)
      · rw [if_neg c] at kk
        rw [e8]
        exact kk
      · rw [if_pos (by omega)] at kk
        exact kk
    · refine g2 M1 P hR1 f1 h2.1 (fun q => absurd h2 q) (fun _ => by omega) (fun _ q => absurd q h.2.2) (fun _ _ q => absurd h.1.2 q) (fun _ _ _ _ => by omega) (fun _ _ _ _ => ?_) (fun _ _ _ q => absurd h.2.1 q)
      have e321 := z_sc_c f1 321 (by unfold z_conf; omega)
      have mf : ∀ (M2 : z_M) (P : Option z_V → z_L → z_M → Prop) (c : Int) (d : Nat), z_sc M M2 → (0 ≤ c ∧ c < M 321 46 * M 321 47) → (∀ M' : z_M, z_sc M2 M' → P (some (0, z_mfr M a1 a2 m c)) z_LL M') → wp xs (d + 6) mX10_mixedFrom 0 [(2, 321), (0, a1), (0, a2), (0, (m : Int)), (0, c), (3, 0)] [] z_LL M2 P := fun M2 P c d f hc k => by
        have e := z_sc_c f 321 (by unfold z_conf; omega)
        refine s_X10_mixedFrom (z_sc_R f hR) (by omega) (by rw [e]; exact h2.1) (by rw [e]; exact h2.2.1) (by rw [e]; exact hc) (fun M3 f3 => ?_)
        rw [z_mfr_q f]
        exact k M3 f3
      generalize ho : M 342 a1 = own at *
      refine mf M1 _ own _ f1 at0.1 (fun M2 f2 => ?_)
      refine gX10_lead_61 ?_
      have mr := fun c hc => z_mfr_r (m := m) (c := c) hR h2.1 h2.2.1 hc
      have bp : ∀ i : Nat, i ≤ (M 321 46 * M 321 47).toNat → 0 ≤ (z_bg (M 321 46) own (z_mfr M a1 a2 m) i).1 := by
        intro i
        induction i with
        | zero => exact fun _ => (mr own at0.1).1
        | succ i ih =>
          intro hi
          by_cases c : z_far (M 321 46) own i = 1 ∧ (z_bg (M 321 46) own (z_mfr M a1 a2 m) i).1 < z_mfr M a1 a2 m i
          · rw [z_bg_y c.1 c.2]
            exact (mr i (by omega)).1
          · rw [z_bg_n c]
            exact ih (by omega)
      refine z_loop (W := fun i => ∀ (M3 : z_M) (w8 : z_V), z_sc M1 M3 → wp xs (d + 200) mX10_lead 66 [(2, 321), (0, a1), (0, a2), (0, (m : Int)), (0, a4), (0, (z_bg (M 321 46) own (z_mfr M a1 a2 m) i).2), (0, (z_bg (M 321 46) own (z_mfr M a1 a2 m) i).1), (0, (i : Int)), w8] [] z_LL M3 P) (M 321 46 * M 321 47).toNat (fun i hi ih M3 w8 f3 => ?_) M2 _ f2
      have f13 := z_sc_t f1 f3
      have hR3 := z_sc_R f13 hR
      have e3 := z_sc_c f13 321 (by unfold z_conf; omega)
      have g := gX10_lead_66 (M := M3) (xs := xs) (d := d + 198) (P := P) (x1 := a1) (x2 := a2) (x3 := (m : Int)) (x4 := a4) (x5 := (z_bg (M 321 46) own (z_mfr M a1 a2 m) i).2) (x6 := (z_bg (M 321 46) own (z_mfr M a1 a2 m) i).1) (x7 := (i : Int)) (w8 := w8) (z_R_F hR3) (z_R_C hR3)
      have o3 : M3 342 a1 = own := by rw [f13.1 342 (by unfold z_sq; omega), ho]
      rw [e3, o3, z_in1 (by omega)] at g
      have bpi := bp i hi
      have kk := k M3 f3
      refine g (fun c c2 => ?_) (fun c c2 => ?_) (fun _ => by omega) (fun _ => by omega) (fun _ _ q => by omega) (fun c c2 _ => ?_) (fun c c2 => ?_)
      · rw [show (M 321 46 * M 321 47).toNat = i by omega, if_neg c2] at kk
        exact kk
      · rw [show (M 321 46 * M 321 47).toNat = i by omega, if_pos (by omega)] at kk
        exact kk
      · have ih := ih (by omega)
        rw [z_bg_n (fun q => c2 q.1)] at ih
        exact ih M3 _ f3
      · refine mf M3 _ i _ f13 (by omega) (fun M4 f4 => ?_)
        have ih := ih (by omega)
        refine gX10_lead_100 (fun c3 => ?_) (fun c3 => ?_)
        · rw [z_in1 (by omega)]
          rw [z_bg_y (Classical.byContradiction c2) c3] at ih
          exact ih M4 _ (z_sc_t f3 f4)
        · rw [z_in1 (by omega)]
          rw [z_bg_n (fun q => c3 q.2)] at ih
          exact ih M4 _ (z_sc_t f3 f4)
  · refine z_two_q (-1) hR (fun P k => ?_) (fun M1 P f1 hR1 k => ?_)
    · by_cases hc : z_cmg M (M 1 0) a1 a2
      · have h2 := cm.mp hc
        have at0 := ((z_R_S hR).1 a1 h2.1.1 h2.1.2)
        rw [(z_R_f hR h2.1.1 h2.1.2).1.2.2] at g
        exact g _ (by omega) (fun q => absurd hc q) (fun _ _ => k M z_sc_r) (fun _ _ _ => k M z_sc_r) (fun _ _ _ _ => k M z_sc_r) (fun _ _ _ _ _ => k M z_sc_r) (fun _ c1 c2 c3 c4 c5 => absurd ⟨⟨hc, by omega, by omega⟩, ⟨by omega, by omega⟩, by omega⟩ h) (fun _ _ _ _ _ _ => k M z_sc_r)
      · exact g _ (by omega) (fun _ => k M z_sc_r) (fun q => absurd q hc) (fun q => absurd q hc) (fun q => absurd q hc) (fun q => absurd q hc) (fun q => absurd q hc) (fun q => absurd q hc)
    · by_cases hc : z_cmg M (M 1 0) a1 a2
      · have h2 := cm.mp hc
        exact g2 M1 P hR1 f1 h2.1 (fun q => absurd h2 q) (fun _ => by omega) (fun _ _ => k M1 z_sc_r) (fun _ _ _ => k M1 z_sc_r) (fun _ _ _ _ => by omega) (fun _ c1 c2 c3 => absurd ⟨⟨hc, c2⟩, c3, c1⟩ h) (fun _ _ _ _ => k M1 z_sc_r)
      · have h2 : ¬ ((0 ≤ a1 ∧ a1 < M1 321 48) ∧ (0 ≤ a2 ∧ a2 < M1 321 48) ∧ z_cm M1 a1 a2) := fun q => hc (cm.mpr (by rw [z_sc_c f1 321 (by unfold z_conf; omega), z_cm_q (z_sc_c f1)] at q; exact q))
        exact gX10_lead_0 (z_R_F hR1) (z_R_C hR1) (fun _ => k M1 z_sc_r) (fun q => absurd q h2) (fun q => absurd q h2) (fun q => absurd q h2) (fun q => absurd q h2) (fun q => absurd q h2) (fun q => absurd q h2)
end
