/-! the class's herds go -/
def z_fin (q i : Int) : Prop := (q = 1 ∧ 3 ≤ i ∧ i ≤ 11) ∨ (q = 30 ∧ 0 ≤ i ∧ i ≤ 1) ∨ (q = 33 ∧ i = 0) ∨ (q = 34 ∧ 0 ≤ i ∧ i ≤ 2) ∨ (q = 38 ∧ 0 ≤ i ∧ i ≤ 3) ∨ (q = 47 ∧ i = 0) ∨ (q = 289 ∧ 0 ≤ i ∧ i ≤ 3) ∨ (q = 294 ∧ 0 ≤ i ∧ i ≤ 5) ∨ (q = 301 ∧ 0 ≤ i ∧ i ≤ 2) ∨ (q = 321 ∧ (i = 0 ∨ (10 ≤ i ∧ i ≤ 16) ∨ (24 ≤ i ∧ i ≤ 35) ∨ (60 ≤ i ∧ i ≤ 63) ∨ (66 ≤ i ∧ i ≤ 67) ∨ (69 ≤ i ∧ i ≤ 75) ∨ (78 ≤ i ∧ i ≤ 80))) ∨ (((q = 24 ∨ q = 39 ∨ (49 ≤ q ∧ q ≤ 283 ∧ (q - 49) % 6 = 0) ∨ (303 ≤ q ∧ q ≤ 315 ∧ (q - 303) % 6 = 0))) ∧ 0 ≤ i ∧ i ≤ 4)
theorem z_fin_all : ∀ p ∈ z_fixl, z_fin p.1 p.2.1 := by
  unfold z_fin
  decide +kernel
theorem z_fix_gen {M M' : z_M} (h : z_fix M) (he : ∀ q i, z_fin q i → M' q i = M q i) : z_fix M' := by
  intro p hp
  rw [he p.1 p.2.1 (z_fin_all p hp)]
  exact h p hp
theorem z_cpn {M : z_M} {q0 s0 q1 s1 n q : Int} (h : q ≠ q1) : z_cpy M q0 s0 q1 s1 n q = M q := by
  funext b
  exact z_cpq h rfl
theorem z_cpi {M : z_M} {q0 s0 q1 s1 n b : Int} (h : s1 ≤ b ∧ b < s1 + n) : z_cpy M q0 s0 q1 s1 n q1 b = M q0 (s0 + (b - s1)) := by
  unfold z_cpy
  rw [if_pos ⟨rfl, h.1, h.2⟩]
theorem z_cpo {M : z_M} {q0 s0 q1 s1 n b : Int} (h : ¬ (s1 ≤ b ∧ b < s1 + n)) : z_cpy M q0 s0 q1 s1 n q1 b = M q1 b := by
  unfold z_cpy
  rw [if_neg (fun q => h ⟨q.2.1, q.2.2⟩)]
set_option maxRecDepth 20000 in
theorem gJ7_fill_53178_0 {xs : List Int} {d : Nat} {M : z_M} {P : Option z_V → z_L → z_M → Prop} {a1 : Int} {a2 : Int} {na1 : Nat} (ha1 : z_lay z_LL a1 = some (0, na1))
    (l1 : wp xs d mJ7_fill_53178 5 [(2, a1), (0, a2), (0, 0), (0, (na1 : Int))] [] z_LL M P) :
    wp xs d mJ7_fill_53178 0 [(2, a1), (0, a2), (3, 0), (3, 0)] [] z_LL M P := by
  refine wp_run 3 (pc' := 3) (ls' := [(2, a1), (0, a2), (0, 0), (3, 0)]) (st' := [(2, a1)]) rfl ?_
  refine wp_len (pc' := 4) rfl rfl ha1 (by decide) ?_
  refine wp_run 1 (pc' := 5) (ls' := [(2, a1), (0, a2), (0, 0), (0, (na1 : Int))]) (st' := []) rfl ?_
  exact l1
set_option maxRecDepth 20000 in
theorem gJ7_fill_53178_5 {xs : List Int} {d : Nat} {M : z_M} {P : Option z_V → z_L → z_M → Prop} {x0 : Int} {x1 : Int} {x2 : Int} {x3 : Int} {nx0 : Nat} (hx0 : z_lay z_LL x0 = some (0, nx0))
    (l1 : (x3 ≤ x2) → P none z_LL M)
    (b1 : (¬ (x3 ≤ x2)) → 0 ≤ x2 ∧ x2 < (nx0 : Int))
    (l2 : (¬ (x3 ≤ x2)) → wp xs d mJ7_fill_53178 5 [(2, x0), (0, x1), (0, (z_w (x2 + 1))), (0, x3)] [] z_LL (z_up M x0 x2 x1) P) :
    wp xs d mJ7_fill_53178 5 [(2, x0), (0, x1), (0, x2), (0, x3)] [] z_LL M P := by
  refine wp_run 2 (pc' := 7) (ls' := [(2, x0), (0, x1), (0, x2), (0, x3)]) (st' := [(0, x3), (0, x2)]) rfl ?_
  refine wp_if2 rfl rfl rfl (fun (c1 : x3 ≤ x2) => ?_) (fun (c1 : ¬ (x3 ≤ x2)) => ?_)
  · exact wp_ret rfl rfl (l1 c1)
  · refine wp_run 3 (pc' := 13) (ls' := [(2, x0), (0, x1), (0, x2), (0, x3)]) (st' := [(0, x1), (0, x2), (2, x0)]) rfl ?_
    refine wp_iast (pc' := 14) rfl rfl hx0 (b1 c1) ?_
    refine wp_run 2 (pc' := 5) (ls' := [(2, x0), (0, x1), (0, (z_w (x2 + 1))), (0, x3)]) (st' := []) rfl ?_
    exact l2 c1
set_option maxRecDepth 20000 in
theorem gX8_count_0 {xs : List Int} {d : Nat} {M : z_M} {P : Option z_V → z_L → z_M → Prop} {a1 : Int} (hF : z_fix M) (ha1 : z_her M a1)
    (l1 : wp xs d mJ7_fill_53178 0 [(2, 37), (0, 0), (3, 0), (3, 0)] [] z_LL M (fun r L1 M1 => wp xs (d + 1) mX8_count 8 [(2, 34), (2, a1), (3, 0)] (z_ol r ++ []) L1 M1 P)) :
    wp xs (d + 1) mX8_count 0 [(2, 34), (2, a1), (3, 0)] [] z_LL M P := by
  refine wp_run 1 (pc' := 1) (ls' := [(2, 34), (2, a1), (3, 0)]) (st' := [(2, 34)]) rfl ?_
  refine wp_gf (pc' := 4) (t := 2) (v := 37) rfl rfl (by decide) rfl rfl (fx_34_2 hF) ?_
  refine wp_run 1 (pc' := 5) (ls' := [(2, 34), (2, a1), (3, 0)]) (st' := [(0, 0), (2, 37)]) rfl ?_
  refine wp_callv (pc' := 8) (as := [(2, 37), (0, 0)]) (rest := []) (ls1 := [(2, 37), (0, 0), (3, 0), (3, 0)]) rfl rfl rfl rfl rfl rfl ?_
  exact l1
set_option maxRecDepth 20000 in
theorem gX8_count_8 {xs : List Int} {d : Nat} {M : z_M} {P : Option z_V → z_L → z_M → Prop} {x1 : Int} (hx1 : z_her M x1)
    (l1 : wp xs d mX8_count 10 [(2, 34), (2, x1), (0, 0)] [] z_LL M P) :
    wp xs d mX8_count 8 [(2, 34), (2, x1), (3, 0)] [] z_LL M P := by
  refine wp_run 2 (pc' := 10) (ls' := [(2, 34), (2, x1), (0, 0)]) (st' := []) rfl ?_
  exact l1
set_option maxRecDepth 20000 in
theorem gX8_count_10 {xs : List Int} {d : Nat} {M : z_M} {P : Option z_V → z_L → z_M → Prop} {x1 : Int} {x2 : Int} (hF : z_fix M) (hx1 : z_her M x1) (hg2 : z_gor M (M 34 3))
    (l1 : ((M (M 34 3) 12) ≤ x2) → P none z_LL M)
    (b1 : (¬ ((M (M 34 3) 12) ≤ x2)) → 0 ≤ x2 ∧ x2 < 6)
    (b2 : (¬ ((M (M 34 3) 12) ≤ x2)) → 0 ≤ (M (x1 + 1) x2) ∧ (M (x1 + 1) x2) < 25)
    (l2 : (¬ ((M (M 34 3) 12) ≤ x2)) → wp xs d mX8_count 10 [(2, 34), (2, x1), (0, (z_w (x2 + 1)))] [] z_LL (z_up M 37 (M (x1 + 1) x2) (z_w ((M 37 (M (x1 + 1) x2)) + 1))) P) :
    wp xs d mX8_count 10 [(2, 34), (2, x1), (0, x2)] [] z_LL M P := by
  refine wp_run 2 (pc' := 12) (ls' := [(2, 34), (2, x1), (0, x2)]) (st' := [(2, 34), (0, x2)]) rfl ?_
  refine wp_gf (pc' := 15) (t := 2) (v := (M 34 3)) rfl rfl (by decide) rfl rfl rfl ?_
  refine wp_gf (pc' := 18) (t := 0) (v := (M (M 34 3) 12)) rfl rfl (by decide) rfl (z_gl0 hg2) rfl ?_
  refine wp_if2 rfl rfl rfl (fun (c1 : (M (M 34 3) 12) ≤ x2) => ?_) (fun (c1 : ¬ ((M (M 34 3) 12) ≤ x2)) => ?_)
  · exact wp_ret rfl rfl (l1 c1)
  · refine wp_run 1 (pc' := 22) (ls' := [(2, 34), (2, x1), (0, x2)]) (st' := [(2, 34)]) rfl ?_
    refine wp_gf (pc' := 25) (t := 2) (v := 37) rfl rfl (by decide) rfl rfl (fx_34_2 hF) ?_
    refine wp_run 1 (pc' := 26) (ls' := [(2, 34), (2, x1), (0, x2)]) (st' := [(2, x1), (2, 37)]) rfl ?_
    refine wp_gf (pc' := 29) (t := 2) (v := (x1 + 1)) rfl rfl (by decide) rfl (z_hl0 hx1) (z_hf0 hx1) ?_
    refine wp_run 1 (pc' := 30) (ls' := [(2, 34), (2, x1), (0, x2)]) (st' := [(0, x2), (2, (x1 + 1)), (2, 37)]) rfl ?_
    refine wp_iald (pc' := 31) (v := (M (x1 + 1) x2)) rfl rfl (z_hl1 hx1) (b1 c1) rfl ?_
    refine wp_run 1 (pc' := 32) (ls' := [(2, 34), (2, x1), (0, x2)]) (st' := [(0, (M (x1 + 1) x2)), (2, 37), (0, (M (x1 + 1) x2)), (2, 37)]) rfl ?_
    refine wp_iald (pc' := 33) (v := (M 37 (M (x1 + 1) x2))) rfl rfl rfl (b2 c1) rfl ?_
    refine wp_run 2 (pc' := 35) (ls' := [(2, 34), (2, x1), (0, x2)]) (st' := [(0, (z_w ((M 37 (M (x1 + 1) x2)) + 1))), (0, (M (x1 + 1) x2)), (2, 37)]) rfl ?_
    refine wp_iast (pc' := 36) rfl rfl rfl (b2 c1) ?_
    refine wp_run 2 (pc' := 10) (ls' := [(2, 34), (2, x1), (0, (z_w (x2 + 1)))]) (st' := []) rfl ?_
    exact l2 c1
theorem s_fill {xs : List Int} {d : Nat} {M : z_M} {P : Option z_V → z_L → z_M → Prop} {q v : Int} {n : Nat} (hl : z_lay z_LL q = some (0, n)) (hn : n ≤ 5000) (k : ∀ M' : z_M, (∀ p, p ≠ q → M' p = M p) → (∀ i : Int, 0 ≤ i → i < n → M' q i = v) → P none z_LL M') : wp xs d mJ7_fill_53178 0 [(2, q), (0, v), (3, 0), (3, 0)] [] z_LL M P := by
  refine gJ7_fill_53178_0 hl ?_
  refine z_loop (W := fun i => ∀ M' : z_M, (∀ p, p ≠ q → M' p = M p) → (∀ j : Int, 0 ≤ j → j < i → M' q j = v) → wp xs d mJ7_fill_53178 5 [(2, q), (0, v), (0, (i : Int)), (0, (n : Int))] [] z_LL M' P) n (fun i hi ih M' h1 h2 => ?_) M (fun _ _ => rfl) (fun j a b => by omega)
  have g := gJ7_fill_53178_5 (M := M') (xs := xs) (d := d) (P := P) (x1 := v) (x2 := (i : Int)) (x3 := (n : Int)) hl
  simp only [z_in1 (i := i) (by omega)] at g
  apply g
  case l1 =>
    intro c
    obtain rfl : i = n := by omega
    exact k M' h1 h2
  case b1 => intros; omega
  case l2 =>
    intro c
    refine ih (by omega) _ (fun p hp => by rw [z_upn hp, h1 p hp]) (fun j a b => ?_)
    by_cases e : j = i
    · rw [e, z_ups]
    · rw [z_upi e rfl]
      exact h2 j a (by omega)
theorem s_X8_count {xs : List Int} {d : Nat} {M : z_M} {P : Option z_V → z_L → z_M → Prop} {h : Int} {s : Int → Int} (hF : z_fix M) (hC : z_mc M) (hG : z_gg M (M 34 3)) (hH : z_hrd M h s) (hat : ∀ f : Int, 0 ≤ f → f < M 321 48 → 0 ≤ s f ∧ s f < 25) (k : ∀ M' : z_M, (∀ q, q ≠ 37 → M' q = M q) → z_crd M' s → P none z_LL M') : wp xs (d + 1) mX8_count 0 [(2, 34), (2, h), (3, 0)] [] z_LL M P := by
  have hn := hC.2.2.1
  have hg := z_gsep hG.1
  have hh := z_hsep hH.1
  obtain ⟨n, hne⟩ : ∃ n : Nat, M 321 48 = (n : Int) := ⟨(M 321 48).toNat, by omega⟩
  refine gX8_count_0 hF hH.1 ?_
  refine s_fill (n := 25) rfl (by decide) (fun M1 h1 h2 => ?_)
  refine gX8_count_8 (M := M1) (x1 := h) (z_her_q (h1 h (by omega)) hH.1) ?_
  refine z_loop (W := fun i => ∀ M' : z_M, (∀ q, q ≠ 37 → M' q = M q) → (∀ c : Int, 0 ≤ c → c < 25 → M' 37 c = z_cnt (fun g => s g = c) i) → wp xs (d + 1) mX8_count 10 [(2, 34), (2, h), (0, (i : Int))] [] z_LL M' P) n (fun i hi ih M' hM hv => ?_) M1 h1 (fun c a b => by rw [h2 c a b]; rfl)
  have q34 : M' 34 = M 34 := hM 34 (by decide)
  have e12 : M' (M 34 3) 12 = (n : Int) := by rw [hM _ (by omega), hG.2.1.2.2.1, hne]
  have eh1 : M' (h + 1) = M (h + 1) := hM _ (by omega)
  have g := gX8_count_10 (M := M') (xs := xs) (d := d + 1) (P := P) (x1 := h) (x2 := (i : Int)) (z_fix_eq hF (fun q hq => hM q (fun e => by rw [e] at hq; unfold z_fobj at hq; omega))) (z_her_q (hM h (by omega)) hH.1) (by rw [q34]; exact z_gor_q (hM _ (by omega)) hG.1)
  simp only [q34, e12, eh1, z_in1 (i := i) (by omega)] at g
  clear hg hh
  apply g
  case l1 =>
    intro c
    obtain rfl : i = n := by omega
    refine k M' hM (fun c a b => ?_)
    rw [hv c a b, hM 321 (by decide), hne, Int.toNat_natCast]
  case b1 => intros; omega
  case b2 =>
    intro c
    rw [(hH.2.1 i (by omega) (by omega)).1]
    exact hat i (by omega) (by omega)
  case l2 =>
    intro c
    have ai := hat i (by omega) (by omega)
    have bd := z_cnt_b (fun g => s g = s i) i
    rw [(hH.2.1 i (by omega) (by omega)).1, hv _ ai.1 ai.2, z_wid (by omega)]
    refine ih (by omega) _ (fun q hq => by rw [z_upn hq, hM q hq]) (fun c a b => ?_)
    by_cases e : s i = c
    · rw [← e, z_ups, z_cnt_1 (p := fun g => s g = s i) rfl]
    · rw [z_upi (fun w => e w.symm) (hv c a b), z_cnt_0 (p := fun g => s g = c) e]
def z_gof (M M' : z_M) : Prop := (∀ q, q ≠ 34 → q ≠ 35 → q ≠ 36 → q ≠ 37 → M' q = M q) ∧ ∀ j, j ≠ 4 → M' 34 j = M 34 j
theorem z_gof_fix {M M' : z_M} (h : z_gof M M') (hF : z_fix M) : z_fix M' := z_fix_gen hF (fun q i hq => by
  by_cases e : q = 34
  · rw [e]
    exact h.2 i (by unfold z_fin at hq; omega)
  · rw [h.1 q e (by unfold z_fin at hq; omega) (by unfold z_fin at hq; omega) (by unfold z_fin at hq; omega)])
theorem z_gof_c {M M' : z_M} (h : z_gof M M') : ∀ q, z_conf q → M' q = M q := fun q hq => h.1 q (by unfold z_conf at hq; omega) (by unfold z_conf at hq; omega) (by unfold z_conf at hq; omega) (by unfold z_conf at hq; omega)
theorem z_gof_gg {M M' : z_M} (h : z_gof M M') (hG : z_gg M (M 34 3)) : z_gg M' (M' 34 3) := by
  have := z_gsep hG.1
  rw [h.2 3 (by decide)]
  exact z_gg_q (fun q hq => h.1 q (by unfold z_conf at hq; omega) (by unfold z_conf at hq; omega) (by unfold z_conf at hq; omega) (by unfold z_conf at hq; omega)) hG
theorem z_gof_hrd {M M' : z_M} {q : Int} {s : Int → Int} (h : z_gof M M') (hH : z_hrd M q s) : z_hrd M' q s := by
  have := z_hsep hH.1
  exact z_hrd_q (fun q hq => h.1 q (by omega) (by omega) (by omega) (by omega)) hH
theorem z_gof_36 {M M' : z_M} {i v : Int} (h : z_gof M M') : z_gof M (z_up M' 36 i v) := ⟨fun q a b c e => by rw [z_upn c, h.1 q a b c e], fun j hj => by rw [z_upn (by decide), h.2 j hj]⟩
theorem z_gof_34 {M M' : z_M} {v : Int} (h : z_gof M M') : z_gof M (z_up M' 34 4 v) := ⟨fun q a b c e => by rw [z_upn a, h.1 q a b c e], fun j hj => by rw [z_upi hj rfl, h.2 j hj]⟩
theorem z_gof_35 {M M' M2 : z_M} (h : z_gof M M') (h2 : ∀ q, q ≠ 35 → M2 q = M' q) : z_gof M M2 := ⟨fun q a b c e => by rw [h2 q b, h.1 q a b c e], fun j hj => by rw [h2 34 (by decide), h.2 j hj]⟩
theorem z_ex_s {p : Nat → Prop} {w : Nat} : (∃ v : Nat, v < w + 1 ∧ p v) ↔ (∃ v : Nat, v < w ∧ p v) ∨ p w := by
  constructor
  · rintro ⟨v, h, e⟩
    by_cases c : v = w
    · exact Or.inr (c ▸ e)
    · exact Or.inl ⟨v, by omega, e⟩
  · rintro (⟨v, h, e⟩ | e)
    · exact ⟨v, by omega, e⟩
    · exact ⟨w, by omega, e⟩
/-- a flock looks at a cell -/
def z_lkf (M : z_M) (s : Int → Int) (f c : Int) : Prop := s (6 + f) ≠ 1 ∧ (c = s f ∨ ∃ v : Nat, v < 4 ∧ z_nb (M 321 46) (M 321 47) (s f) v = c)
/-- the first n flocks look at a cell -/
def z_lkn (M : z_M) (s : Int → Int) (n : Nat) (c : Int) : Prop := ∃ f : Nat, f < n ∧ z_lkf M s f c
theorem z_lkn_s {M : z_M} {s : Int → Int} {n : Nat} {c : Int} : z_lkn M s (n + 1) c ↔ z_lkn M s n c ∨ z_lkf M s n c := z_ex_s
theorem z_lkn_0 {M : z_M} {s : Int → Int} {c : Int} : ¬ z_lkn M s 0 c := fun ⟨f, h, _⟩ => by omega
set_option maxRecDepth 20000 in
theorem gX8_go_0 {xs : List Int} {d : Nat} {M : z_M} {P : Option z_V → z_L → z_M → Prop} {a1 : Int} (ha1 : z_her M a1)
    (l1 : wp xs d mX8_count 0 [(2, 34), (2, a1), (3, 0)] [] z_LL M (fun r L1 M1 => wp xs (d + 1) mX8_go 5 [(2, 34), (2, a1), (3, 0), (3, 0), (3, 0), (3, 0), (3, 0), (3, 0)] (z_ol r ++ []) L1 M1 P)) :
    wp xs (d + 1) mX8_go 0 [(2, 34), (2, a1), (3, 0), (3, 0), (3, 0), (3, 0), (3, 0), (3, 0)] [] z_LL M P := by
  refine wp_run 2 (pc' := 2) (ls' := [(2, 34), (2, a1), (3, 0), (3, 0), (3, 0), (3, 0), (3, 0), (3, 0)]) (st' := [(2, a1), (2, 34)]) rfl ?_
  refine wp_callv (pc' := 5) (as := [(2, 34), (2, a1)]) (rest := []) (ls1 := [(2, 34), (2, a1), (3, 0)]) rfl rfl rfl rfl rfl rfl ?_
  exact l1
set_option maxRecDepth 20000 in
theorem gX8_go_5 {xs : List Int} {d : Nat} {M : z_M} {P : Option z_V → z_L → z_M → Prop} {x1 : Int} (hx1 : z_her M x1)
    (l1 : wp xs d mX8_go 7 [(2, 34), (2, x1), (0, 0), (3, 0), (3, 0), (3, 0), (3, 0), (3, 0)] [] z_LL M P) :
    wp xs d mX8_go 5 [(2, 34), (2, x1), (3, 0), (3, 0), (3, 0), (3, 0), (3, 0), (3, 0)] [] z_LL M P := by
  refine wp_run 2 (pc' := 7) (ls' := [(2, 34), (2, x1), (0, 0), (3, 0), (3, 0), (3, 0), (3, 0), (3, 0)]) (st' := []) rfl ?_
  exact l1
set_option maxRecDepth 20000 in
theorem gX8_go_7 {xs : List Int} {d : Nat} {M : z_M} {P : Option z_V → z_L → z_M → Prop} {x1 : Int} {x2 : Int} {w3 : z_V} {w4 : z_V} {w5 : z_V} {w6 : z_V} {w7 : z_V} (hF : z_fix M) (hx1 : z_her M x1) (hg2 : z_gor M (M 34 3))
    (b1 : ((M (M 34 3) 12) ≤ x2) → (0 ≤ (M (M 34 3) 12) ∧ (0:Int) ≤ 0 ∧ (0:Int) ≤ 0) ∧ 0 + (M (M 34 3) 12) ≤ 6 ∧ 0 + (M (M 34 3) 12) ≤ 6)
    (l1 : ((M (M 34 3) 12) ≤ x2) → P none z_LL (z_cpy M 36 0 (x1 + 1) 0 (M (M 34 3) 12)))
    (b2 : (¬ ((M (M 34 3) 12) ≤ x2)) → 0 ≤ x2 ∧ x2 < 6)
    (l2 : (¬ ((M (M 34 3) 12) ≤ x2)) → ((z_and (z_shr (M x1 5) x2) 1) = 0) → wp xs d mX8_worth 0 [(2, 34), (2, x1), (0, x2), (0, (M (x1 + 1) x2)), (3, 0), (3, 0), (3, 0), (3, 0)] [] z_LL (z_up (z_up M 36 x2 (M (x1 + 1) x2)) 34 4 (z_or (M 34 4) (z_shl 1 (M (x1 + 1) x2)))) (fun r L1 M1 => wp xs (d + 1) mX8_go 62 [(2, 34), (2, x1), (0, x2), (0, (M (x1 + 1) x2)), w4, w5, w6, w7] (z_ol r ++ []) L1 M1 P))
    (l3 : (¬ ((M (M 34 3) 12) ≤ x2)) → (¬ ((z_and (z_shr (M x1 5) x2) 1) = 0)) → wp xs (d + 1) mX8_go 7 [(2, 34), (2, x1), (0, (z_w (x2 + 1))), (0, (M (x1 + 1) x2)), w4, w5, w6, w7] [] z_LL (z_up M 36 x2 (M (x1 + 1) x2)) P) :
    wp xs (d + 1) mX8_go 7 [(2, 34), (2, x1), (0, x2), w3, w4, w5, w6, w7] [] z_LL M P := by
  refine wp_run 2 (pc' := 9) (ls' := [(2, 34), (2, x1), (0, x2), w3, w4, w5, w6, w7]) (st' := [(2, 34), (0, x2)]) rfl ?_
  refine wp_gf (pc' := 12) (t := 2) (v := (M 34 3)) rfl rfl (by decide) rfl rfl rfl ?_
  refine wp_gf (pc' := 15) (t := 0) (v := (M (M 34 3) 12)) rfl rfl (by decide) rfl (z_gl0 hg2) rfl ?_
  refine wp_if2 rfl rfl rfl (fun (c1 : (M (M 34 3) 12) ≤ x2) => ?_) (fun (c1 : ¬ ((M (M 34 3) 12) ≤ x2)) => ?_)
  · refine wp_run 1 (pc' := 153) (ls' := [(2, 34), (2, x1), (0, x2), w3, w4, w5, w6, w7]) (st' := [(2, 34)]) rfl ?_
    refine wp_gf (pc' := 156) (t := 2) (v := 36) rfl rfl (by decide) rfl rfl (fx_34_1 hF) ?_
    refine wp_run 2 (pc' := 158) (ls' := [(2, 34), (2, x1), (0, x2), w3, w4, w5, w6, w7]) (st' := [(2, x1), (0, 0), (2, 36)]) rfl ?_
    refine wp_gf (pc' := 161) (t := 2) (v := (x1 + 1)) rfl rfl (by decide) rfl (z_hl0 hx1) (z_hf0 hx1) ?_
    refine wp_run 2 (pc' := 163) (ls' := [(2, 34), (2, x1), (0, x2), w3, w4, w5, w6, w7]) (st' := [(2, 34), (0, 0), (2, (x1 + 1)), (0, 0), (2, 36)]) rfl ?_
    refine wp_gf (pc' := 166) (t := 2) (v := (M 34 3)) rfl rfl (by decide) rfl rfl rfl ?_
    refine wp_gf (pc' := 169) (t := 0) (v := (M (M 34 3) 12)) rfl rfl (by decide) rfl (z_gl0 hg2) rfl ?_
    refine wp_acp (pc' := 172) rfl rfl rfl (z_hl1 hx1) (b1 c1) ?_
    exact wp_ret rfl rfl (l1 c1)
  · refine wp_run 1 (pc' := 19) (ls' := [(2, 34), (2, x1), (0, x2), w3, w4, w5, w6, w7]) (st' := [(2, x1)]) rfl ?_
    refine wp_gf (pc' := 22) (t := 2) (v := (x1 + 1)) rfl rfl (by decide) rfl (z_hl0 hx1) (z_hf0 hx1) ?_
    refine wp_run 1 (pc' := 23) (ls' := [(2, 34), (2, x1), (0, x2), w3, w4, w5, w6, w7]) (st' := [(0, x2), (2, (x1 + 1))]) rfl ?_
    refine wp_iald (pc' := 24) (v := (M (x1 + 1) x2)) rfl rfl (z_hl1 hx1) (b2 c1) rfl ?_
    refine wp_run 2 (pc' := 26) (ls' := [(2, 34), (2, x1), (0, x2), (0, (M (x1 + 1) x2)), w4, w5, w6, w7]) (st' := [(2, 34)]) rfl ?_
    refine wp_gf (pc' := 29) (t := 2) (v := 36) rfl rfl (by decide) rfl rfl (fx_34_1 hF) ?_
    refine wp_run 2 (pc' := 31) (ls' := [(2, 34), (2, x1), (0, x2), (0, (M (x1 + 1) x2)), w4, w5, w6, w7]) (st' := [(0, (M (x1 + 1) x2)), (0, x2), (2, 36)]) rfl ?_
    refine wp_iast (pc' := 32) rfl rfl rfl (b2 c1) ?_
    refine wp_run 2 (pc' := 34) (ls' := [(2, 34), (2, x1), (0, x2), (0, (M (x1 + 1) x2)), w4, w5, w6, w7]) (st' := [(0, x2), (2, x1)]) rfl ?_
    refine wp_callv (pc' := 37) (as := [(2, x1), (0, x2)]) (rest := []) (ls1 := [(2, x1), (0, x2)]) rfl rfl rfl rfl (z_args_v rfl rfl rfl rfl (Nat.le_of_ble_eq_true rfl) rfl (by decide) (z_hl0 hx1)) rfl ?_
    refine wp_run 1 (pc' := 1) (ls' := [(2, x1), (0, x2)]) (st' := [(2, x1)]) rfl ?_
    refine wp_gf (pc' := 4) (t := 0) (v := (M x1 5)) rfl rfl (by decide) rfl (z_hl0 hx1) (z_upq (by have := z_hr hx1; omega) rfl) ?_
    refine wp_run 4 (pc' := 8) (ls' := [(2, x1), (0, x2)]) (st' := [(0, (z_and (z_shr (M x1 5) x2) 1))]) rfl ?_
    refine wp_if1 rfl rfl rfl (fun (c2 : (z_and (z_shr (M x1 5) x2) 1) = 0) => ?_) (fun (c2 : ¬ ((z_and (z_shr (M x1 5) x2) 1) = 0)) => ?_)
    · refine wp_run 1 (pc' := 16) (ls' := [(2, x1), (0, x2)]) (st' := [(0, 0)]) rfl ?_
      refine wp_ret rfl rfl ?_
      show wp xs _ mX8_go 37 [(2, 34), (2, x1), (0, x2), (0, (M (x1 + 1) x2)), w4, w5, w6, w7] [(0, 0)] z_LL (z_up M 36 x2 (M (x1 + 1) x2)) _
      refine wp_run 3 (pc' := 45) (ls' := [(2, 34), (2, x1), (0, x2), (0, (M (x1 + 1) x2)), w4, w5, w6, w7]) (st' := [(2, 34), (2, 34)]) rfl ?_
      refine wp_gf (pc' := 48) (t := 0) (v := (M 34 4)) rfl rfl (by decide) rfl rfl (z_upq (by decide) rfl) ?_
      refine wp_run 4 (pc' := 52) (ls' := [(2, 34), (2, x1), (0, x2), (0, (M (x1 + 1) x2)), w4, w5, w6, w7]) (st' := [(0, (z_or (M 34 4) (z_shl 1 (M (x1 + 1) x2)))), (2, 34)]) rfl ?_
      refine wp_pf (pc' := 55) rfl rfl rfl rfl (fun z => absurd z (by decide)) (fun z => absurd z (by decide)) ?_
      refine wp_run 4 (pc' := 59) (ls' := [(2, 34), (2, x1), (0, x2), (0, (M (x1 + 1) x2)), w4, w5, w6, w7]) (st' := [(0, (M (x1 + 1) x2)), (0, x2), (2, x1), (2, 34)]) rfl ?_
      refine wp_callv (pc' := 62) (as := [(2, 34), (2, x1), (0, x2), (0, (M (x1 + 1) x2))]) (rest := []) (ls1 := [(2, 34), (2, x1), (0, x2), (0, (M (x1 + 1) x2)), (3, 0), (3, 0), (3, 0), (3, 0)]) rfl rfl rfl rfl rfl rfl ?_
      exact l2 c1 c2
    · refine wp_run 2 (pc' := 16) (ls' := [(2, x1), (0, x2)]) (st' := [(0, 1)]) rfl ?_
      refine wp_ret rfl rfl ?_
      show wp xs _ mX8_go 37 [(2, 34), (2, x1), (0, x2), (0, (M (x1 + 1) x2)), w4, w5, w6, w7] [(0, 1)] z_LL (z_up M 36 x2 (M (x1 + 1) x2)) _
      refine wp_run 4 (pc' := 7) (ls' := [(2, 34), (2, x1), (0, (z_w (x2 + 1))), (0, (M (x1 + 1) x2)), w4, w5, w6, w7]) (st' := []) rfl ?_
      exact l3 c1 c2
set_option maxRecDepth 20000 in
theorem gX8_go_62 {xs : List Int} {d : Nat} {M : z_M} {P : Option z_V → z_L → z_M → Prop} {x1 : Int} {x2 : Int} {x3 : Int} {w4 : z_V} {w5 : z_V} {w6 : z_V} {w7 : z_V} {s0 : Int} (hx1 : z_her M x1)
    (l1 : wp xs d mX8_go 67 [(2, 34), (2, x1), (0, x2), (0, x3), (0, s0), (0, 0), w6, w7] [] z_LL M P) :
    wp xs d mX8_go 62 [(2, 34), (2, x1), (0, x2), (0, x3), w4, w5, w6, w7] [(0, s0)] z_LL M P := by
  refine wp_run 3 (pc' := 67) (ls' := [(2, 34), (2, x1), (0, x2), (0, x3), (0, s0), (0, 0), w6, w7]) (st' := []) rfl ?_
  exact l1
set_option maxRecDepth 20000 in
theorem gX8_go_67 {xs : List Int} {d : Nat} {M : z_M} {P : Option z_V → z_L → z_M → Prop} {x1 : Int} {x2 : Int} {x3 : Int} {x4 : Int} {x5 : Int} {w6 : z_V} {w7 : z_V} (hx1 : z_her M x1) (hg2 : z_gor M (M 34 3))
    (l1 : (4 ≤ x5) → wp xs (d + 1) mX8_go 7 [(2, 34), (2, x1), (0, (z_w (x2 + 1))), (0, x3), (0, x4), (0, x5), w6, w7] [] z_LL M P)
    (b1 : (¬ (4 ≤ x5)) → 0 ≤ (z_w ((z_w (x3 * 4)) + x5)) ∧ (z_w ((z_w (x3 * 4)) + x5)) < 100)
    (l2 : (¬ (4 ≤ x5)) → ((M ((M 34 3) + 9) (z_w ((z_w (x3 * 4)) + x5))) ≠ (-1)) → wp xs d mX8_worth 0 [(2, 34), (2, x1), (0, x2), (0, (M ((M 34 3) + 9) (z_w ((z_w (x3 * 4)) + x5)))), (3, 0), (3, 0), (3, 0), (3, 0)] [] z_LL (z_up M 34 4 (z_or (M 34 4) (z_shl 1 (M ((M 34 3) + 9) (z_w ((z_w (x3 * 4)) + x5)))))) (fun r L1 M1 => wp xs (d + 1) mX8_go 119 [(2, 34), (2, x1), (0, x2), (0, x3), (0, x4), (0, x5), (0, (M ((M 34 3) + 9) (z_w ((z_w (x3 * 4)) + x5)))), w7] (z_ol r ++ []) L1 M1 P))
    (l3 : (¬ (4 ≤ x5)) → (¬ ((M ((M 34 3) + 9) (z_w ((z_w (x3 * 4)) + x5))) ≠ (-1))) → wp xs (d + 1) mX8_go 67 [(2, 34), (2, x1), (0, x2), (0, x3), (0, x4), (0, (z_w (x5 + 1))), (0, (M ((M 34 3) + 9) (z_w ((z_w (x3 * 4)) + x5)))), w7] [] z_LL M P) :
    wp xs (d + 1) mX8_go 67 [(2, 34), (2, x1), (0, x2), (0, x3), (0, x4), (0, x5), w6, w7] [] z_LL M P := by
  refine wp_run 2 (pc' := 70) (ls' := [(2, 34), (2, x1), (0, x2), (0, x3), (0, x4), (0, x5), w6, w7]) (st' := [(0, 4), (0, x5)]) rfl ?_
  refine wp_if2 rfl rfl rfl (fun (c1 : 4 ≤ x5) => ?_) (fun (c1 : ¬ (4 ≤ x5)) => ?_)
  · refine wp_run 2 (pc' := 7) (ls' := [(2, 34), (2, x1), (0, (z_w (x2 + 1))), (0, x3), (0, x4), (0, x5), w6, w7]) (st' := []) rfl ?_
    exact l1 c1
  · refine wp_run 1 (pc' := 74) (ls' := [(2, 34), (2, x1), (0, x2), (0, x3), (0, x4), (0, x5), w6, w7]) (st' := [(2, 34)]) rfl ?_
    refine wp_gf (pc' := 77) (t := 2) (v := (M 34 3)) rfl rfl (by decide) rfl rfl rfl ?_
    refine wp_gf (pc' := 80) (t := 2) (v := ((M 34 3) + 9)) rfl rfl (by decide) rfl (z_gl0 hg2) (z_gf8 hg2) ?_
    refine wp_run 5 (pc' := 86) (ls' := [(2, 34), (2, x1), (0, x2), (0, x3), (0, x4), (0, x5), w6, w7]) (st' := [(0, (z_w ((z_w (x3 * 4)) + x5))), (2, ((M 34 3) + 9))]) rfl ?_
    refine wp_iald (pc' := 87) (v := (M ((M 34 3) + 9) (z_w ((z_w (x3 * 4)) + x5)))) rfl rfl (z_gl9 hg2) (b1 c1) rfl ?_
    refine wp_run 3 (pc' := 92) (ls' := [(2, 34), (2, x1), (0, x2), (0, x3), (0, x4), (0, x5), (0, (M ((M 34 3) + 9) (z_w ((z_w (x3 * 4)) + x5)))), w7]) (st' := [(0, (-1)), (0, (M ((M 34 3) + 9) (z_w ((z_w (x3 * 4)) + x5))))]) rfl ?_
    refine wp_if2 rfl rfl rfl (fun (c2 : (M ((M 34 3) + 9) (z_w ((z_w (x3 * 4)) + x5))) ≠ (-1)) => ?_) (fun (c2 : ¬ ((M ((M 34 3) + 9) (z_w ((z_w (x3 * 4)) + x5))) ≠ (-1))) => ?_)
    · refine wp_run 2 (pc' := 100) (ls' := [(2, 34), (2, x1), (0, x2), (0, x3), (0, x4), (0, x5), (0, (M ((M 34 3) + 9) (z_w ((z_w (x3 * 4)) + x5)))), w7]) (st' := [(2, 34), (2, 34)]) rfl ?_
      refine wp_gf (pc' := 103) (t := 0) (v := (M 34 4)) rfl rfl (by decide) rfl rfl rfl ?_
      refine wp_run 4 (pc' := 108) (ls' := [(2, 34), (2, x1), (0, x2), (0, x3), (0, x4), (0, x5), (0, (M ((M 34 3) + 9) (z_w ((z_w (x3 * 4)) + x5)))), w7]) (st' := [(0, (z_or (M 34 4) (z_shl 1 (M ((M 34 3) + 9) (z_w ((z_w (x3 * 4)) + x5)))))), (2, 34)]) rfl ?_
      refine wp_pf (pc' := 111) rfl rfl rfl rfl (fun z => absurd z (by decide)) (fun z => absurd z (by decide)) ?_
      refine wp_run 4 (pc' := 116) (ls' := [(2, 34), (2, x1), (0, x2), (0, x3), (0, x4), (0, x5), (0, (M ((M 34 3) + 9) (z_w ((z_w (x3 * 4)) + x5)))), w7]) (st' := [(0, (M ((M 34 3) + 9) (z_w ((z_w (x3 * 4)) + x5)))), (0, x2), (2, x1), (2, 34)]) rfl ?_
      refine wp_callv (pc' := 119) (as := [(2, 34), (2, x1), (0, x2), (0, (M ((M 34 3) + 9) (z_w ((z_w (x3 * 4)) + x5))))]) (rest := []) (ls1 := [(2, 34), (2, x1), (0, x2), (0, (M ((M 34 3) + 9) (z_w ((z_w (x3 * 4)) + x5)))), (3, 0), (3, 0), (3, 0), (3, 0)]) rfl rfl rfl rfl rfl rfl ?_
      exact l2 c1 c2
    · refine wp_run 3 (pc' := 67) (ls' := [(2, 34), (2, x1), (0, x2), (0, x3), (0, x4), (0, (z_w (x5 + 1))), (0, (M ((M 34 3) + 9) (z_w ((z_w (x3 * 4)) + x5)))), w7]) (st' := []) rfl ?_
      exact l3 c1 c2
set_option maxRecDepth 20000 in
theorem gX8_go_119 {xs : List Int} {d : Nat} {M : z_M} {P : Option z_V → z_L → z_M → Prop} {x1 : Int} {x2 : Int} {x3 : Int} {x4 : Int} {x5 : Int} {x6 : Int} {w7 : z_V} {s0 : Int} (hF : z_fix M) (hx1 : z_her M x1)
    (l1 : (s0 ≤ x4) → wp xs d mX8_go 67 [(2, 34), (2, x1), (0, x2), (0, x3), (0, x4), (0, (z_w (x5 + 1))), (0, x6), (0, s0)] [] z_LL M P)
    (b1 : (¬ (s0 ≤ x4)) → 0 ≤ x2 ∧ x2 < 6)
    (l2 : (¬ (s0 ≤ x4)) → wp xs d mX8_go 67 [(2, 34), (2, x1), (0, x2), (0, x3), (0, s0), (0, (z_w (x5 + 1))), (0, x6), (0, s0)] [] z_LL (z_up M 36 x2 x6) P) :
    wp xs d mX8_go 119 [(2, 34), (2, x1), (0, x2), (0, x3), (0, x4), (0, x5), (0, x6), w7] [(0, s0)] z_LL M P := by
  refine wp_run 3 (pc' := 125) (ls' := [(2, 34), (2, x1), (0, x2), (0, x3), (0, x4), (0, x5), (0, x6), (0, s0)]) (st' := [(0, x4), (0, s0)]) rfl ?_
  refine wp_if2 rfl rfl rfl (fun (c1 : s0 ≤ x4) => ?_) (fun (c1 : ¬ (s0 ≤ x4)) => ?_)
  · refine wp_run 2 (pc' := 67) (ls' := [(2, 34), (2, x1), (0, x2), (0, x3), (0, x4), (0, (z_w (x5 + 1))), (0, x6), (0, s0)]) (st' := []) rfl ?_
    exact l1 c1
  · refine wp_run 3 (pc' := 133) (ls' := [(2, 34), (2, x1), (0, x2), (0, x3), (0, s0), (0, x5), (0, x6), (0, s0)]) (st' := [(2, 34)]) rfl ?_
    refine wp_gf (pc' := 136) (t := 2) (v := 36) rfl rfl (by decide) rfl rfl (fx_34_1 hF) ?_
    refine wp_run 2 (pc' := 139) (ls' := [(2, 34), (2, x1), (0, x2), (0, x3), (0, s0), (0, x5), (0, x6), (0, s0)]) (st' := [(0, x6), (0, x2), (2, 36)]) rfl ?_
    refine wp_iast (pc' := 140) rfl rfl rfl (b1 c1) ?_
    refine wp_run 2 (pc' := 67) (ls' := [(2, 34), (2, x1), (0, x2), (0, x3), (0, s0), (0, (z_w (x5 + 1))), (0, x6), (0, s0)]) (st' := []) rfl ?_
    exact l2 c1
theorem s_X8_go {xs : List Int} {d : Nat} {M : z_M} {P : Option z_V → z_L → z_M → Prop} {h D : Int} {s : Int → Int} (hF : z_fix M) (hC : z_mc M) (hP : z_fp M) (hG : z_gg M (M 34 3)) (hH : z_hrd M h s) (hS : z_sn M D s) (k : ∀ M' : z_M, (∀ q, q ≠ 34 → q ≠ 35 → q ≠ 36 → q ≠ 37 → q ≠ h + 1 → M' q = M q) → (∀ j, j ≠ 4 → M' 34 j = M 34 j) → (∀ c : Int, 0 ≤ c → c < 25 → (z_bt (M' 34 4) c ↔ z_bt (M 34 4) c ∨ z_lkn M s (M 321 48).toNat c)) → (∀ f : Int, 0 ≤ f → f < M 321 48 → M' (h + 1) f = z_gl M s f) → P none z_LL M') : wp xs (d + 2) mX8_go 0 [(2, 34), (2, h), (3, 0), (3, 0), (3, 0), (3, 0), (3, 0), (3, 0)] [] z_LL M P := by
  have hn := hC.2.2.1
  have hx := z_mc_cells hC
  obtain ⟨n, hne⟩ : ∃ n : Nat, M 321 48 = (n : Int) := ⟨(M 321 48).toNat, by omega⟩
  refine gX8_go_0 hH.1 ?_
  refine s_X8_count hF hC hG hH (fun f a b => by have := (hS.1 f a b).1; omega) (fun M1 hM1 hR1 => ?_)
  have f1 : z_gof M M1 := ⟨fun q _ _ _ e => hM1 q e, fun j _ => by rw [hM1 34 (by decide)]⟩
  refine gX8_go_5 (z_gof_hrd f1 hH).1 ?_
  refine z_loop (W := fun i => ∀ (M' : z_M) (w3 w4 w5 w6 w7 : z_V), z_gof M M' → z_crd M' s → (∀ f : Int, 0 ≤ f → f < i → M' 36 f = z_gl M s f) → (∀ c : Int, 0 ≤ c → c < 25 → (z_bt (M' 34 4) c ↔ z_bt (M 34 4) c ∨ z_lkn M s i c)) → wp xs (d + 2) mX8_go 7 [(2, 34), (2, h), (0, (i : Int)), w3, w4, w5, w6, w7] [] z_LL M' P) n (fun i hi ih M' w3 w4 w5 w6 w7 hM hR hv hl => ?_) M1 _ _ _ _ _ f1 hR1 (fun f a b => by omega) (fun c a b => ?_)
  · have hF' := z_gof_fix hM hF
    have hG' := z_gof_gg hM hG
    have hH' := z_gof_hrd hM hH
    have e321 : M' 321 = M 321 := hM.1 321 (by decide) (by decide) (by decide) (by decide)
    have e12 : M' (M' 34 3) 12 = (n : Int) := by rw [hG'.2.1.2.2.1, e321, hne]
    have g := gX8_go_7 (M := M') (xs := xs) (d := d + 1) (P := P) (x1 := h) (x2 := (i : Int)) (w3 := w3) (w4 := w4) (w5 := w5) (w6 := w6) (w7 := w7) hF' hH'.1 hG'.1
    simp only [e12, z_in1 (i := i) (by omega)] at g
    apply g
    case b1 => intros; omega
    case b2 => intros; omega
    case l1 =>
      intro c
      obtain rfl : i = n := by omega
      have hh := z_hsep hH.1
      refine k _ (fun q a b c e f => by rw [z_cpn f, hM.1 q a b c e]) (fun j hj => by rw [z_cpn (by omega), hM.2 j hj]) (fun c a b => by rw [z_cpn (by omega), hl c a b, hne, Int.toNat_natCast]) (fun f a b => ?_)
      rw [z_cpi (by omega), show 0 + (f - 0) = f by omega]
      exact hv f a (by omega)
    case l3 =>
      intro c c2
      have at0 := hS.1 i (by omega) (by omega)
      have eo : M' (h + 1) i = s i := (hH'.2.1 i (by omega) (by rw [e321]; omega)).1
      have ep : z_and (z_shr (M' h 5) i) 1 = s (6 + i) := by
        rw [hH'.2.2.2.2.1, e321, hne, Int.toNat_natCast]
        exact z_pens_b (fun f a b => (hS.1 f a (by omega)).2.1) (by omega) (by omega)
      rw [ep] at c2
      rw [eo]
      refine ih (by omega) _ _ _ _ _ _ (z_gof_36 hM) (z_crd_q (fun q hq => z_upn (by omega)) hR) (fun f a b => ?_) (fun c a b => ?_)
      · by_cases e : f = i
        · rw [e, z_ups]
          unfold z_gl
          rw [if_pos (by omega)]
        · rw [z_upi e rfl]
          exact hv f a (by omega)
      · rw [z_upn (by decide), hl c a b, z_lkn_s]
        constructor
        · rintro (q | q)
          · exact Or.inl q
          · exact Or.inr (Or.inl q)
        · rintro (q | q | q)
          · exact Or.inl q
          · exact Or.inr q
          · exact absurd (by omega) q.1
    case l2 =>
      intro c c2
      have at0 := hS.1 i (by omega) (by omega)
      have eo : M' (h + 1) i = s i := (hH'.2.1 i (by omega) (by rw [e321]; omega)).1
      have ep : z_and (z_shr (M' h 5) i) 1 = s (6 + i) := by
        rw [hH'.2.2.2.2.1, e321, hne, Int.toNat_natCast]
        exact z_pens_b (fun f a b => (hS.1 f a (by omega)).2.1) (by omega) (by omega)
      rw [ep] at c2
      rw [eo]
      have f2 : z_gof M (z_up (z_up M' 36 i (s i)) 34 4 (z_or (M' 34 4) (z_shl 1 (s i)))) := z_gof_34 (z_gof_36 hM)
      refine s_X8_worth (z_gof_fix f2 hF) (z_mc_e (z_gof_c f2) hC) (z_fp_q (z_gof_c f2) hP) (z_gof_gg f2 hG) (z_gof_hrd f2 hH) (z_crd_q (fun q hq => by rw [z_upn (by omega), z_upn (by omega)]) hR) (by rw [z_gof_c f2 321 (by unfold z_conf; omega)]; omega) (by rw [z_gof_c f2 321 (by unfold z_conf; omega)]; omega) (fun M3 hM3 => ?_)
      rw [z_pul_q (z_gof_c f2)]
      have f3 := z_gof_35 f2 hM3
      refine gX8_go_62 (M := M3) (x1 := h) (x2 := (i : Int)) (x3 := s i) (z_gof_hrd f3 hH).1 ?_
      refine z_loop (W := fun w => ∀ (M4 : z_M) (w6 w7 : z_V), z_gof M M4 → z_crd M4 s → (∀ f : Int, 0 ≤ f → f < i → M4 36 f = z_gl M s f) → M4 36 i = (z_wy M s i w).2 → (∀ c : Int, 0 ≤ c → c < 25 → (z_bt (M4 34 4) c ↔ z_bt (M' 34 4) c ∨ c = s i ∨ ∃ v : Nat, v < w ∧ z_nb (M 321 46) (M 321 47) (s i) v = c)) → wp xs (d + 2) mX8_go 67 [(2, 34), (2, h), (0, (i : Int)), (0, s i), (0, (z_wy M s i w).1), (0, (w : Int)), w6, w7] [] z_LL M4 P) 4 (fun w hw ih2 M4 w6 w7 hM4 hR4 hv4 hi4 hl4 => ?_) M3 _ _ f3 (z_crd_q (fun q hq => by rw [hM3 q (by omega), z_upn (by omega), z_upn (by omega)]) hR) (fun f a b => by rw [hM3 36 (by decide), z_upn (by decide), z_upi (by omega) rfl]; exact hv f a b) (by rw [hM3 36 (by decide), z_upn (by decide), z_ups]; rfl) (fun c a b => ?_)
      · have hF4 := z_gof_fix hM4 hF
        have hG4 := z_gof_gg hM4 hG
        have hH4 := z_gof_hrd hM4 hH
        have e321 : M4 321 = M 321 := hM4.1 321 (by decide) (by decide) (by decide) (by decide)
        have en : w < 4 → M4 (M4 34 3 + 9) (4 * s i + w) = z_nb (M 321 46) (M 321 47) (s i) w := fun hw => by
          rw [z_nb_at hG4 (by rw [e321]; exact at0.1) hw, e321]
        have g := gX8_go_67 (M := M4) (xs := xs) (d := d + 1) (P := P) (x1 := h) (x2 := (i : Int)) (x3 := s i) (x4 := (z_wy M s i w).1) (x5 := (w : Int)) (w6 := w6) (w7 := w7) hH4.1 hG4.1
        simp only [z_in1 (i := i) (by omega), z_in1 (i := w) (by omega), z_wid (x := s i * 4) (by omega), show s i * 4 + w = 4 * s i + w by omega, z_wid (x := 4 * s i + w) (by omega)] at g
        apply g
        case b1 => intros; omega
        case l1 =>
          intro c
          obtain rfl : w = 4 := by omega
          refine ih (by omega) M4 _ _ _ _ _ hM4 hR4 (fun f a b => ?_) (fun c a b => ?_)
          · by_cases e : f = i
            · rw [e, hi4, z_wy_b hC at0.1]
              unfold z_gl
              rw [if_neg (by omega)]
            · exact hv4 f a (by omega)
          · rw [hl4 c a b, hl c a b, z_lkn_s, or_assoc]
            unfold z_lkf
            constructor
            · rintro (q | q | q)
              · exact Or.inl q
              · exact Or.inr (Or.inl q)
              · exact Or.inr (Or.inr ⟨by omega, q⟩)
            · rintro (q | q | q)
              · exact Or.inl q
              · exact Or.inr (Or.inl q)
              · exact Or.inr (Or.inr q.2)
        case l3 =>
          intro c c3
          have c3 := Classical.byContradiction c3
          rw [en (by omega)] at c3
          have ih' := ih2 (by omega) M4 (0, z_nb (M 321 46) (M 321 47) (s i) w) w7 hM4 hR4 hv4
          rw [show z_wy M s i (w + 1) = z_wy M s i w from z_wst_n (fun q => q.1 c3)] at ih'
          rw [en (by omega)]
          refine ih' hi4 (fun c a b => ?_)
          rw [hl4 c a b, z_ex_s]
          constructor
          · rintro (q | q | q)
            · exact Or.inl q
            · exact Or.inr (Or.inl q)
            · exact Or.inr (Or.inr (Or.inl q))
          · rintro (q | q | q | q)
            · exact Or.inl q
            · exact Or.inr (Or.inl q)
            · exact Or.inr (Or.inr q)
            · omega
        case l2 =>
          intro c c3
          rw [en (by omega)] at c3 ⊢
          have rn := z_nb_r hC.1 hC.2.1 at0.1 c3
          have ew : z_wy M s i (w + 1) = z_wst M s i (z_wy M s i w) (z_nb (M 321 46) (M 321 47) (s i) w) := rfl
          generalize hp : z_nb (M 321 46) (M 321 47) (s i) w = p at *
          have f5 : z_gof M (z_up M4 34 4 (z_or (M4 34 4) (z_shl 1 p))) := z_gof_34 hM4
          refine s_X8_worth (z_gof_fix f5 hF) (z_mc_e (z_gof_c f5) hC) (z_fp_q (z_gof_c f5) hP) (z_gof_gg f5 hG) (z_gof_hrd f5 hH) (z_crd_q (fun q hq => by rw [z_upn (by omega)]) hR4) (by rw [z_gof_c f5 321 (by unfold z_conf; omega)]; omega) (by rw [z_gof_c f5 321 (by unfold z_conf; omega)]; omega) (fun M6 hM6 => ?_)
          rw [z_pul_q (z_gof_c f5)]
          have f6 := z_gof_35 f5 hM6
          have r6 : z_crd M6 s := z_crd_q (fun q hq => by rw [hM6 q (by omega), z_upn (by omega)]) hR4
          have l6 : ∀ c : Int, 0 ≤ c → c < 25 → (z_bt (M6 34 4) c ↔ z_bt (M' 34 4) c ∨ c = s i ∨ ∃ v : Nat, v < w + 1 ∧ z_nb (M 321 46) (M 321 47) (s i) v = c) := fun c a b => by
            rw [hM6 34 (by decide), z_ups, z_bt_or ⟨a, by omega⟩, z_bt_shl (by omega) ⟨a, by omega⟩, hl4 c a b, z_ex_s, hp, or_assoc, or_assoc]
          have g := gX8_go_119 (M := M6) (xs := xs) (d := d + 2) (P := P) (x1 := h) (x2 := (i : Int)) (x3 := s i) (x4 := (z_wy M s i w).1) (x5 := (w : Int)) (x6 := p) (w7 := w7) (s0 := z_pul M s i p) (z_gof_fix f6 hF) (z_gof_hrd f6 hH).1
          simp only [z_in1 (i := w) (by omega)] at g
          apply g
          case b1 => intros; omega
          case l1 =>
            intro hb
            have ih' := ih2 (by omega) M6 (0, p) (0, z_pul M s i p) f6 r6 (fun f a b => by rw [hM6 36 (by decide), z_upn (by decide)]; exact hv4 f a b)
            rw [ew, z_wst_n (fun q => by have := q.2; omega)] at ih'
            refine ih' ?_ l6
            rw [hM6 36 (by decide), z_upn (by decide)]
            exact hi4
          case l2 =>
            intro hb
            have ih' := ih2 (by omega) (z_up M6 36 i p) (0, p) (0, z_pul M s i p) (z_gof_36 f6) (z_crd_q (fun q hq => z_upn (by omega)) r6) (fun f a b => by rw [z_upi (by omega) rfl, hM6 36 (by decide), z_upn (by decide)]; exact hv4 f a b)
            rw [ew, z_wst_y c3 (by omega)] at ih'
            refine ih' z_ups (fun c a b => ?_)
            rw [z_upn (by decide)]
            exact l6 c a b
      · rw [hM3 34 (by decide), z_ups, z_bt_or ⟨a, by omega⟩, z_bt_shl (by omega) ⟨a, by omega⟩]
        constructor
        · rintro (q | q)
          · exact Or.inl q
          · exact Or.inr (Or.inl q.symm)
        · rintro (q | q | ⟨v, q, _⟩)
          · exact Or.inl q
          · exact Or.inr q.symm
          · omega
  · rw [hM1 34 (by decide)]
    constructor
    · exact Or.inl
    · rintro (q | q)
      · exact q
      · exact absurd q z_lkn_0
