theorem z_ml_sp {o idx a : Nat} (h : ((z_ml o).any fun e => decide (e.1 = idx) && decide (e.2.1 = a)) = true) : Cond.methodLink (z_rn o) idx (z_yof a) ∈ z_ws ∨ (a < 2000 ∧ Cond.methodLinkNest (z_rn o) idx (z_yof a) RX9 ∈ z_nst) := by
  obtain ⟨e, he, h1⟩ := List.any_eq_true.mp h
  simp only [Bool.and_eq_true, decide_eq_true_eq] at h1
  obtain ⟨rfl, rfl⟩ := h1
  have ho : o < 41 := Decidable.byContradiction fun q => by rw [z_ml_out q] at he; cases he
  have h2 := List.all_eq_true.mp (z_mlk_all o ho) e he
  by_cases hc : e.2.2.1 = 0
  · rw [if_pos hc] at h2
    exact Or.inl (z_pw_in h2)
  · rw [if_neg hc] at h2
    simp only [Bool.and_eq_true, decide_eq_true_eq] at h2
    exact Or.inr ⟨h2.1, List.mem_of_getElem? h2.2⟩
theorem z_okM_cpy {L : z_L} {M : z_M} {q0 s0 q1 s1 n : Int} {g0 g1 : Nat × Nat} (h : z_okM L M) (h0 : z_lay L q0 = some g0) (h1 : z_lay L q1 = some g1) (k0 : g0.1 = 0) (k1 : g1.1 = 0) : z_okM L (z_cpy M q0 s0 q1 s1 n) := by
  intro q g hg i
  unfold z_cpy
  by_cases hc : q = q1 ∧ s1 ≤ i ∧ i < s1 + n
  · rw [if_pos hc]
    obtain ⟨rfl, -⟩ := hc
    rw [h1] at hg
    cases hg
    have := h q0 g0 h0 (s0 + (i - s1))
    obtain ⟨a0, b0⟩ := g0
    obtain ⟨a1, b1⟩ := g1
    dsimp only at k0 k1
    subst k0; subst k1
    exact this
  · rw [if_neg hc]
    exact h q g hg i
theorem z_ce_cpy {sz : Nat} {ex : Int → Value} {cy : Nat → ClassId} {M : z_M} {q0 s0 q1 s1 n : Int} {N : Nat} (h0 : 0 ≤ n) (h1 : 0 ≤ s1) (h2 : 0 ≤ s0) : z_ce sz ex cy (0, N) (z_cpy M q0 s0 q1 s1 n q1) = .inl (cy 0, N, .inl (va_cpy (fun (j : Nat) => Int32.ofInt (M q0 j)) (fun (j : Nat) => Int32.ofInt (M q1 j)) s0.toNat s1.toNat n.toNat)) := by
  have : (fun (j : Nat) => Int32.ofInt (z_cpy M q0 s0 q1 s1 n q1 j)) = va_cpy (fun (j : Nat) => Int32.ofInt (M q0 j)) (fun (j : Nat) => Int32.ofInt (M q1 j)) s0.toNat s1.toNat n.toNat := by
    funext j
    unfold va_cpy z_cpy
    by_cases hc : s1.toNat ≤ j ∧ j < s1.toNat + n.toNat
    · rw [if_pos hc, if_pos ⟨rfl, by omega, by omega⟩]
      congr 2
      omega
    · rw [if_neg hc, if_neg (fun hd => hc ⟨by omega, by omega⟩)]
  rw [← this]
  rfl
theorem z_neg0 {n : Int} (h : z_oi n) (h0 : 0 ≤ n) : ¬ Int32.ofInt n < 0 := by
  rw [z_zero, z_lt32 h z_oi0]
  omega
section
variable {p : Program} {l : Launch} {e : Env} {R : Room} {s : State} {m : MethodId} {args : Array Value} {below : List Frame} {meth : Method} {c : Code} {Q : State → Prop} {D : va_G} {sz : Nat} {ex : Int → Value} {cy : Nat → ClassId} {n0 t0 nL : Nat} {xs : List Int} {o : Nat} {cc : ByteArray} {ini : Bool}
variable {pc len : Nat} {ls st st' : List z_V} {L : z_L} {M M' : z_M}
theorem z_obj_g (X : z_Cx p s m args meth c D sz ex cy nL xs o cc ini n0) {idx : Nat} (hf : ((z_ml o).any fun e => decide (e.1 = idx) && decide (e.2.1 = 2000)) = true) (hR : 1 ≤ R.frames ∧ 100 ≤ R.locals) (hd : decode cc pc = .ok (.invokespecial idx, 3)) {y : List z_V × z_M} (h : z_nat L M 2000 st = some y) (kk : z_G p l e R s m args below meth c Q D sz ex cy n0 t0 nL (pc + 3, ls, y.1, L, y.2)) : z_G p l e R s m args below meth c Q D sz ex cy n0 t0 nL (pc, ls, st, L, M) := by
  obtain ⟨hx, hb, hml, hown, hts, hn, hK, hO, hsz, hini⟩ := X
  have hlink : Cond.methodLink (z_rn o) idx objectInit ∈ z_ws := by
    rcases z_ml_sp hf with h | h
    · exact h
    · exact absurd h.1 (by decide)
  unfold z_nat at h
  by_cases hcat : 16 < z_cat st
  · rw [if_pos hcat] at h
    cases h
  rw [if_neg hcat, if_pos rfl] at h
  split at h
  · rename_i v r
    obtain ⟨v1, v2⟩ := v
    split at h
    · rename_i h1
      obtain ⟨h1, h2⟩ := h1
      dsimp only at h1 h2
      subst h1
      cases h
      refine z_hs (fun lsA H locs cells slots hI kw => ?_) (fun h w hw => h w (List.mem_cons_of_mem _ hw)) kk
      show W p l e R s m args below meth c H locs cells slots Q (F0 m pc lsA (z_rf sz ex v2 :: r.map (z_cv sz ex)))
      rw [z_rf_ref h2]
      have hcs := z_catsum hO.1 (sz := sz) r
      have hc2 : z_cat ((2, v2) :: r) = 1 + z_cat r := by simp [z_cat]
      exact W.objInit hx hb hown (hts _ hlink) (hts _ (z_pw_in (n := 1027) (by decide +kernel))) (hts _ (z_pw_in (n := 1028) (by decide +kernel))) rfl (by rw [hml]; exact hI.2.2.2.2.2.2.1) rfl hd hR.1 (by show 2 * 0 + ((r.map (z_cv sz ex)).map fun v => v.category).sum + 12 ≤ R.locals; rw [hcs]; omega) kw
    · cases h
  · cases h
theorem z_nat_g (X : z_Cx p s m args meth c D sz ex cy nL xs o cc ini n0) {a idx : Nat} (ha : 2001 ≤ a ∧ a ≤ 2004) (hf : ((z_ml o).any fun e => decide (e.1 = idx) && decide (e.2.1 = a)) = true) (hR : 1 ≤ R.frames ∧ 100 ≤ R.locals) (hRL : L.length ≤ n0 + R.cells ∧ z_tot L ≤ t0 + R.slots) (hd : decode cc pc = .ok (.invokestatic idx, 3)) {y : List z_V × z_M} (h : z_nat L M a st = some y) (kk : z_G p l e R s m args below meth c Q D sz ex cy n0 t0 nL (pc + 3, ls, y.1, L, y.2)) : z_G p l e R s m args below meth c Q D sz ex cy n0 t0 nL (pc, ls, st, L, M) := by
  obtain ⟨hx, hb, hml, hown, hts, hn, hK, hO, hsz, hini⟩ := X
  have hlink : Cond.methodLink (z_rn o) idx (z_yof a) ∈ z_ws := by
    rcases z_ml_sp hf with h | h
    · exact h
    · omega
  unfold z_nat at h
  by_cases hcat : 16 < z_cat st
  · rw [if_pos hcat] at h
    cases h
  rw [if_neg hcat] at h
  have hcs := fun r => z_catsum hO.1 (sz := sz) r
  have hab : a = 2001 ∨ a = 2002 ∨ a = 2003 ∨ a = 2004 := by omega
  have hmx : (Cond.initialized "java/lang/Math") ∈ z_ws := z_pw_in (n := 1004) (by decide +kernel)
  have two : ∀ {x y : Int} {r : List z_V}, z_cat ((0, x) :: (0, y) :: r) = 2 + z_cat r := by
    intro x y r
    simp [z_cat]
    omega
  rcases hab with rfl | rfl | rfl | rfl
  · rw [if_neg (by decide), if_pos rfl] at h
    split at h
    · rename_i r hr
      cases h
      obtain ⟨x, y, r, rfl, rfl⟩ := z_b2_sp hr
      rw [two] at hcat
      intro lsA H locs cells slots hI w1 w2
      obtain ⟨i1, i2, i3, i4, i5, i6, i7⟩ := hI
      dsimp only at w1 w2
      have hy := (i6 _ List.mem_cons_self).1 rfl
      have hz := (i6 _ (List.mem_cons_of_mem _ List.mem_cons_self)).1 rfl
      dsimp only at hy hz
      refine va_mmax hx hb (by rw [hml]; exact i7.1.symm) hown (hts _ hlink) (hts _ (z_pw_in (n := 3136) (by decide +kernel))) (hts _ hmx) (hts _ (z_pw_in (n := 3137) (by decide +kernel))) hR.1 (by show ((r.map (z_cv sz ex)).map fun v => v.category).sum + 13 ≤ R.locals; rw [hcs]; omega) (by omega) (by omega) hd ?_
      have e1 : (if Int32.ofInt x < Int32.ofInt y then Int32.ofInt y else Int32.ofInt x) = Int32.ofInt (if x < y then y else x) := by
        by_cases hc : x < y
        · rw [if_pos ((z_lt32 hz hy).mpr hc), if_pos hc]
        · rw [if_neg (fun q => hc ((z_lt32 hz hy).mp q)), if_neg hc]
      show W p l e R s m args below meth c H locs cells slots Q (F0 m (pc + 3) lsA (.int (if Int32.ofInt x < Int32.ofInt y then Int32.ofInt y else Int32.ofInt x) :: r.map (z_cv sz ex)))
      rw [e1]
      refine kk lsA H locs cells slots ⟨i1, i2, i3, i4, i5, fun w hw => ?_, i7⟩ w1 w2
      rcases List.mem_cons.mp hw with rfl | hw
      · refine z_okv_i ?_
        split
        · exact hy
        · exact hz
      · exact i6 w (List.mem_cons_of_mem _ (List.mem_cons_of_mem _ hw))
    · cases h
  · rw [if_neg (by decide), if_neg (by decide), if_pos rfl] at h
    split at h
    · rename_i r hr
      cases h
      obtain ⟨x, y, r, rfl, rfl⟩ := z_b2_sp hr
      rw [two] at hcat
      intro lsA H locs cells slots hI w1 w2
      obtain ⟨i1, i2, i3, i4, i5, i6, i7⟩ := hI
      dsimp only at w1 w2
      have hy := (i6 _ List.mem_cons_self).1 rfl
      have hz := (i6 _ (List.mem_cons_of_mem _ List.mem_cons_self)).1 rfl
      dsimp only at hy hz
      refine va_mmin hx hb (by rw [hml]; exact i7.1.symm) hown (hts _ hlink) (hts _ (z_pw_in (n := 3139) (by decide +kernel))) (hts _ hmx) (hts _ (z_pw_in (n := 3140) (by decide +kernel))) hR.1 (by show ((r.map (z_cv sz ex)).map fun v => v.category).sum + 13 ≤ R.locals; rw [hcs]; omega) (by omega) (by omega) hd ?_
      have e1 : (if Int32.ofInt y < Int32.ofInt x then Int32.ofInt y else Int32.ofInt x) = Int32.ofInt (if y < x then y else x) := by
        by_cases hc : y < x
        · rw [if_pos ((z_lt32 hy hz).mpr hc), if_pos hc]
        · rw [if_neg (fun q => hc ((z_lt32 hy hz).mp q)), if_neg hc]
      show W p l e R s m args below meth c H locs cells slots Q (F0 m (pc + 3) lsA (.int (if Int32.ofInt y < Int32.ofInt x then Int32.ofInt y else Int32.ofInt x) :: r.map (z_cv sz ex)))
      rw [e1]
      refine kk lsA H locs cells slots ⟨i1, i2, i3, i4, i5, fun w hw => ?_, i7⟩ w1 w2
      rcases List.mem_cons.mp hw with rfl | hw
      · refine z_okv_i ?_
        split
        · exact hy
        · exact hz
      · exact i6 w (List.mem_cons_of_mem _ (List.mem_cons_of_mem _ hw))
    · cases h
  · rw [if_neg (by decide), if_neg (by decide), if_neg (by decide), if_pos rfl] at h
    split at h
    · rename_i r hr
      cases h
      obtain ⟨x, r, rfl, rfl⟩ := z_u1_sp hr
      have one : z_cat ((0, x) :: r) = 1 + z_cat r := by simp [z_cat]
      rw [one] at hcat
      intro lsA H locs cells slots hI w1 w2
      obtain ⟨i1, i2, i3, i4, i5, i6, i7⟩ := hI
      dsimp only at w1 w2
      have hz := (i6 _ List.mem_cons_self).1 rfl
      dsimp only at hz
      refine va_mabs hx hb (by rw [hml]; exact i7.1.symm) hown (hts _ hlink) (hts _ (z_pw_in (n := 1063) (by decide +kernel))) (hts _ hmx) (hts _ (z_pw_in (n := 1064) (by decide +kernel))) hR.1 (by show ((r.map (z_cv sz ex)).map fun v => v.category).sum + 13 ≤ R.locals; rw [hcs]; omega) (by omega) (by omega) hd ?_
      have e1 : (if 0 ≤ Int32.ofInt x then Int32.ofInt x else 0 - Int32.ofInt x) = Int32.ofInt (if x < 0 then z_w (-x) else x) := by
        by_cases hc : x < 0
        · rw [if_neg (fun q => by rw [z_zero, z_le32 z_oi0 hz] at q; omega), if_pos hc, z_w_32, Int32.ofInt_neg, Int32.zero_sub]
        · rw [if_pos (by rw [z_zero, z_le32 z_oi0 hz]; omega), if_neg hc]
      show W p l e R s m args below meth c H locs cells slots Q (F0 m (pc + 3) lsA (.int (if 0 ≤ Int32.ofInt x then Int32.ofInt x else 0 - Int32.ofInt x) :: r.map (z_cv sz ex)))
      rw [e1]
      refine kk lsA H locs cells slots ⟨i1, i2, i3, i4, i5, fun w hw => ?_, i7⟩ w1 w2
      rcases List.mem_cons.mp hw with rfl | hw
      · refine z_okv_i ?_
        split
        · exact z_w_oi _
        · exact hz
      · exact i6 w (List.mem_cons_of_mem _ hw)
    · cases h
  · rw [if_neg (by decide), if_neg (by decide), if_neg (by decide), if_neg (by decide), if_pos rfl] at h
    split at h
    · rename_i n d q1 s1 q0 r
      obtain ⟨n1, n2⟩ := n
      obtain ⟨d1, d2⟩ := d
      obtain ⟨q11, q12⟩ := q1
      obtain ⟨s11, s12⟩ := s1
      obtain ⟨q01, q02⟩ := q0
      split at h
      · rename_i h1
        obtain ⟨⟨h1, h2, h3, h4, h5⟩, h6⟩ := h1
        dsimp only at h1 h2 h3 h4 h5 h
        subst h1; subst h2; subst h3; subst h4; subst h5; subst h6
        split at h
        · rename_i e0 e1 he0 he1
          split at h
          · rename_i h7
            obtain ⟨⟨k0, k1⟩, ⟨b1, b2, b3⟩, b4, b5⟩ := h7
            cases h
            refine z_hm (fun hM => z_okM_cpy hM he0 he1 k0 k1) (fun w hw => by cases hw) (fun lsA H locs cells slots hI kw => ?_) kk
            obtain ⟨i1, i2, i3, i4, i5, i6, i7⟩ := hI
            obtain ⟨a0, b0⟩ := e0
            obtain ⟨a1, b1'⟩ := e1
            dsimp only at k0 k1 b4 b5
            subst k0; subst k1
            have on := (i6 _ List.mem_cons_self).1 rfl
            have od := (i6 _ (List.mem_cons_of_mem _ List.mem_cons_self)).1 rfl
            have os := (i6 _ (List.mem_cons_of_mem _ (List.mem_cons_of_mem _ (List.mem_cons_of_mem _ List.mem_cons_self)))).1 rfl
            dsimp only at on od os
            obtain ⟨p0, -, -⟩ := z_lay_sp he0
            obtain ⟨p1, -, -⟩ := z_lay_sp he1
            show W p l e R s m args below meth c H locs cells slots Q (F0 m pc lsA [.int (Int32.ofInt n2), .int (Int32.ofInt d2), z_rf sz ex q12, .int (Int32.ofInt s12), z_rf sz ex q02])
            rw [z_rf_ref p0, z_rf_ref p1]
            have enw : nativeFrameWords "java/lang/System" "arraycopy" 5 = 7 := by decide
            refine va_copyi (D := D) (cl := vwCl) (tys := z_tys cy) (ty := .int) hx hb (by rw [hml]; exact i7.1.symm) hown (hts _ hlink) (hts _ (z_pw_in (n := 3016) (by decide +kernel))) (hts _ (z_pw_in (n := 3015) (by decide +kernel))) (hts _ (z_pw_in (n := 1017) (by decide +kernel))) hK i1 z_wd_D i3 _ _ 0 0 (z_wd_at he0) (z_wd_at he1) rfl rfl rfl (z_neg0 os b3) (z_neg0 od b2) (z_neg0 on b1) (by rw [z_tnc os b3, z_tnc on b1]; omega) (by rw [z_tnc od b2, z_tnc on b1]; omega) (fun _ _ => rfl) hR.1 (by rw [enw]; show 0 + 18 ≤ R.locals; omega) hd (fun H1 locs1 c1 _ c2 => kw H1 locs1 ?_ c2)
            rw [z_tnc os b3, z_tnc od b2, z_tnc on b1, z_wd_upd (M' := z_cpy M q02 s12 q12 d2 n2) he1 ?_ (z_ce_cpy b1 b2 b3)] at c1
            · exact c1
            · intro q hq
              funext b
              unfold z_cpy
              rw [if_neg (fun hc => hq hc.1)]
          · cases h
        · cases h
      · cases h
    · cases h
end
