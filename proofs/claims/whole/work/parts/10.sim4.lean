theorem z_ce_set {sz : Nat} {ex : Int → Value} {cy : Nat → ClassId} {ci n k : Nat} {M : z_M} {q x : Int} : z_ce sz ex cy (ci + 5, n) (z_up M q k x q) = .inr (ci, ((List.range (z_cl ci).2.2).map (fun (j : Nat) => z_cv sz ex (z_ft ci j, M q j))).set k (z_cv sz ex (z_ft ci k, x))) := by
  rw [z_ce_obj]
  congr 2
  refine List.ext_getElem? fun j => ?_
  rw [List.getElem?_set, List.getElem?_map, List.getElem?_map, List.length_map, List.length_range]
  by_cases hk : k = j
  · subst hk
    rw [if_pos rfl]
    by_cases hn : k < (z_cl ci).2.2
    · rw [if_pos hn, List.getElem?_range hn]
      simp [z_up]
    · rw [if_neg hn, List.getElem?_eq_none (by simp; omega)]
      rfl
  · rw [if_neg hk]
    by_cases hn : j < (z_cl ci).2.2
    · rw [List.getElem?_range hn]
      have : ¬ (j : Int) = (k : Int) := by omega
      simp [z_up, this]
    · rw [List.getElem?_eq_none (by simp; omega)]
      rfl
theorem z_up_ne {M : z_M} {q i x : Int} : ∀ q', q' ≠ q → z_up M q i x q' = M q' := by
  intro q' h
  funext b
  unfold z_up
  rw [if_neg (fun hc => h hc.1)]
theorem z_nar {ci k : Nat} (h : z_tk (z_fty ci k) (z_ft ci k) ((z_fbt.getD ci []).getD k 0) = true) {sz : Nat} {ex : Int → Value} (hex : ∀ x, ex x = .null ∨ ∃ a, ex x = .ref a) {x : Int} (hb : (z_fbt.getD ci []).getD k 0 = 1 → x = 0 ∨ x = 1) : narrow (z_fty ci k) (z_cv sz ex (z_ft ci k, x)) = z_cv sz ex (z_ft ci k, x) ∧ fits (z_fty ci k) (z_cv sz ex (z_ft ci k, x)) = true := by
  generalize z_fty ci k = ty at h ⊢
  generalize z_ft ci k = t at h ⊢
  have hr : z_cv sz ex (2, x) = .null ∨ ∃ a, z_cv sz ex (2, x) = .ref a := by
    rw [z_cv_r]
    unfold z_rf
    split
    · exact Or.inl rfl
    · split
      · exact hex x
      · exact Or.inr ⟨_, rfl⟩
  cases ty with
  | int =>
    have : t = 0 := by simpa [z_tk] using h
    subst this
    exact ⟨rfl, rfl⟩
  | long =>
    have : t = 1 := by simpa [z_tk] using h
    subst this
    exact ⟨rfl, rfl⟩
  | boolean =>
    have : t = 0 ∧ (z_fbt.getD ci []).getD k 0 = 1 := by simpa [z_tk] using h
    obtain ⟨rfl, h2⟩ := this
    rcases hb h2 with rfl | rfl
    · rw [z_cv_i]
      exact ⟨by decide, by decide⟩
    · rw [z_cv_i]
      exact ⟨by decide, by decide⟩
  | object _ =>
    have : t = 2 := by simpa [z_tk] using h
    subst this
    rcases hr with h | ⟨a, h⟩ <;> rw [h] <;> exact ⟨rfl, rfl⟩
  | array _ =>
    have : t = 2 := by simpa [z_tk] using h
    subst this
    rcases hr with h | ⟨a, h⟩ <;> rw [h] <;> exact ⟨rfl, rfl⟩
  | _ => simp [z_tk] at h
section
variable {p : Program} {l : Launch} {e : Env} {R : Room} {s : State} {m : MethodId} {args : Array Value} {below : List Frame} {meth : Method} {c : Code} {Q : State → Prop} {D : va_G} {sz : Nat} {ex : Int → Value} {cy : Nat → ClassId} {n0 t0 nL : Nat} {xs : List Int} {o : Nat} {cc : ByteArray} {ini : Bool}
variable {pc len : Nat} {ls st st' : List z_V} {L : z_L} {M M' : z_M}
theorem z_pf_g (X : z_Cx p s m args meth c D sz ex cy nL xs o cc ini n0) {ci k idx : Nat} (hci : ci < 11) (hfin : ((z_cl ci).2.1 k).2.2.2 = false ∨ (ini = true ∧ z_rn o = (z_cl ci).1)) (hf : ((z_fl o).any fun e => decide (e.1 = idx) && decide (e.2.1 = ci) && decide (e.2.2.1 = k)) = true) (hd : decode cc pc = .ok (.putfield idx, 3)) {y : List z_V × z_M} (h : z_pf L M ci k st = some y) (kk : z_G p l e R s m args below meth c Q D sz ex cy n0 t0 nL (pc + 3, ls, y.1, L, y.2)) : z_G p l e R s m args below meth c Q D sz ex cy n0 t0 nL (pc, ls, st, L, M) := by
  obtain ⟨hx, hb, hml, hown, hts, hn, hK, hO, hsz, hini⟩ := X
  unfold z_pf at h
  split at h
  · rename_i x v r
    obtain ⟨v1, v2⟩ := v
    obtain ⟨x1, x2⟩ := x
    split at h
    · rename_i h1
      obtain ⟨⟨h1, h2⟩, h3, h4⟩ := h1
      dsimp only at h1 h2 h3 h4 h
      subst h1; subst h2
      rcases z_fl_sp hf with ⟨rfl, hk⟩ | ⟨hc, -, hk, hrf, hw⟩
      · omega
      split at h
      · rename_i g hg
        split at h
        · rename_i hg1
          cases h
          obtain ⟨g1, g2⟩ := g
          dsimp only at hg1
          subst hg1
          obtain ⟨q0, q1, q2⟩ := z_lay_sp hg
          have hty := z_fty_ok ci hci k hk
          have hnf := z_nar (sz := sz) (ex := ex) hty.2 hO.1 (x := x2) h4
          have hkt : z_kt (ci + 5) (k : Int).toNat = z_ft ci k := by simp [z_kt]
          intro lsA H locs cells slots hI w1 w2
          obtain ⟨i1, i2, i3, i4, i5, i6, i7⟩ := hI
          have hM : z_okM L (z_up M v2 k x2) := z_okM_up i4 hg (by rw [show ((ci + 5, g2) : Nat × Nat).1 = ci + 5 from rfl, hkt]; exact i6 _ List.mem_cons_self) (by rw [show ((ci + 5, g2) : Nat × Nat).1 = ci + 5 from rfl, hkt]; exact h3)
          have hfin2 : ∀ (H1 : Heap) (locs1 : List Loc), va_P D vwCl ((z_wd sz ex cy L M).set (v2 - 1).toNat (sz + (v2 - 1).toNat, .inr (ci, ((List.range (z_cl ci).2.2).map (fun (j : Nat) => z_cv sz ex (z_ft ci j, M v2 j))).set k (z_cv sz ex (z_ft ci k, x2))))) H1 → va_D (fun q : Nat => sz ≤ q) ((z_wd sz ex cy L M).set (v2 - 1).toNat (sz + (v2 - 1).toNat, .inr (ci, ((List.range (z_cl ci).2.2).map (fun (j : Nat) => z_cv sz ex (z_ft ci j, M v2 j))).set k (z_cv sz ex (z_ft ci k, x2))))) → va_S (fun q : Nat => sz ≤ q) s.heap H1 locs1 → W p l e R s m args below meth c H1 locs1 cells slots Q (F0 m (pc + 3) lsA (r.map (z_cv sz ex))) := by
            intro H1 locs1 a1 _ a2
            rw [z_wd_upd hg z_up_ne z_ce_set] at a1
            exact kk lsA H1 locs1 cells slots ⟨a1, i2, a2, hM, i5, fun w hw => i6 w (List.mem_cons_of_mem _ (List.mem_cons_of_mem _ hw)), i7⟩ w1 w2
          show W p l e R s m args below meth c H locs cells slots Q (F0 m pc lsA (z_cv sz ex (z_ft ci k, x2) :: z_rf sz ex v2 :: r.map (z_cv sz ex)))
          rw [z_rf_ref q0]
          rcases hfin with hf0 | ⟨hi, ho⟩
          · exact va_put (D := D) (ci := ci) (v := z_cv sz ex (z_ft ci k, x2)) (ty := z_fty ci k) (C := (z_cl ci).1) (T := (z_cl ci).2.1) (N := (z_cl ci).2.2) hx hb hts (z_up_in hci) (z_fty ci) (fun k hk => (z_fty_ok ci hci k hk).1) (z_nm_ok ci hci) hown hK i1 z_wd_D i3 _ (z_wd_at hg) (z_cl_at hci) k hk (hts _ hw) (fun x hx2 => by rw [hrf] at hx2; exact hx2) hf0 hty.1 hnf.1 hnf.2 (by simpa using hk) hd hfin2
          · rcases hq : ((z_cl ci).2.1 k).2.2.2 with _ | _
            · exact va_put (D := D) (ci := ci) (v := z_cv sz ex (z_ft ci k, x2)) (ty := z_fty ci k) (C := (z_cl ci).1) (T := (z_cl ci).2.1) (N := (z_cl ci).2.2) hx hb hts (z_up_in hci) (z_fty ci) (fun k hk => (z_fty_ok ci hci k hk).1) (z_nm_ok ci hci) hown hK i1 z_wd_D i3 _ (z_wd_at hg) (z_cl_at hci) k hk (hts _ hw) (fun x hx2 => by rw [hrf] at hx2; exact hx2) hq hty.1 hnf.1 hnf.2 (by simpa using hk) hd hfin2
            · exact va_putF (D := D) (ci := ci) (v := z_cv sz ex (z_ft ci k, x2)) (ty := z_fty ci k) (C := (z_cl ci).1) (T := (z_cl ci).2.1) (N := (z_cl ci).2.2) hx hb hts (z_up_in hci) (z_fty ci) (fun k hk => (z_fty_ok ci hci k hk).1) (z_nm_ok ci hci) hown hK i1 z_wd_D i3 _ (z_wd_at hg) (z_cl_at hci) k hk (hts _ hw) (fun x hx2 => by rw [hrf] at hx2; exact hx2) hq (hini hi) (hrf.trans ho.symm) hty.1 hnf.1 hnf.2 (by simpa using hk) hd hfin2
        · cases h
      · cases h
    · cases h
  · cases h
theorem z_upd_i {M : z_M} {q i x : Int} (h0 : 0 ≤ i) : (fun (j : Nat) => Int32.ofInt (z_up M q i x q j)) = upd (fun (j : Nat) => Int32.ofInt (M q j)) i.toNat (Int32.ofInt x) := by
  funext j
  unfold upd z_up
  by_cases hj : j = i.toNat
  · rw [if_pos hj, if_pos ⟨rfl, by omega⟩]
  · rw [if_neg hj, if_neg (fun hc => hj (by omega))]
theorem z_upd_l {M : z_M} {q i x : Int} (h0 : 0 ≤ i) : (fun (j : Nat) => Int64.ofInt (z_up M q i x q j)) = vp_updL (fun (j : Nat) => Int64.ofInt (M q j)) i.toNat (Int64.ofInt x) := by
  funext j
  unfold vp_updL z_up
  by_cases hj : j = i.toNat
  · rw [if_pos hj, if_pos ⟨rfl, by omega⟩]
  · rw [if_neg hj, if_neg (fun hc => hj (by omega))]
theorem z_upd_q {M : z_M} {q i x : Int} (h0 : 0 ≤ i) (hx : 0 < x) : (fun (j : Nat) => z_ro sz (z_up M q i x q j)) = va_up (fun (j : Nat) => z_ro sz (M q j)) i.toNat (some (sz + (x - 1).toNat)) := by
  funext j
  unfold va_up z_up
  by_cases hj : j = i.toNat
  · rw [if_pos hj, if_pos ⟨rfl, by omega⟩]
    unfold z_ro
    rw [if_neg (by omega)]
  · rw [if_neg hj, if_neg (fun hc => hj (by omega))]
theorem z_al_sp {t : Nat} {ok : Nat → Bool} (h : z_al xs L M t ok st = some st') : ∃ (i v : Int) (r : List z_V), st = (0, i) :: (2, v) :: r ∧
    ((v < 0 ∧ ok (if v = -1 then 0 else 2) = true ∧ 0 ≤ i ∧ ∃ x, (z_xt xs v)[i.toNat]? = some x ∧ st' = (0, x) :: r) ∨ (¬ v < 0 ∧ ∃ g, z_lay L v = some g ∧ ok g.1 = true ∧ 0 ≤ i ∧ i < g.2 ∧ st' = (t, M v i) :: r)) := by
  unfold z_al at h
  split at h
  · rename_i i v r
    obtain ⟨i1, i2⟩ := i
    obtain ⟨v1, v2⟩ := v
    split at h
    · rename_i h1
      obtain ⟨h1, h2⟩ := h1
      dsimp only at h1 h2 h
      subst h1; subst h2
      refine ⟨i2, v2, r, rfl, ?_⟩
      split at h
      · rename_i hv
        left
        by_cases h3 : ok (if v2 = -1 then 0 else 2) = true ∧ 0 ≤ i2
        · rw [if_pos h3] at h
          cases hx : (z_xt xs v2)[i2.toNat]? with
          | none => rw [hx] at h; cases h
          | some x =>
            rw [hx] at h
            exact ⟨hv, h3.1, h3.2, x, rfl, (Option.some.inj h).symm⟩
        · rw [if_neg h3] at h
          cases h
      · rename_i hv
        right
        split at h
        · rename_i g hg
          split at h
          · rename_i h3
            exact ⟨hv, g, hg, h3.1, h3.2.1, h3.2.2, (Option.some.inj h).symm⟩
          · cases h
        · cases h
    · cases h
  · cases h
theorem z_as_sp {t : Nat} {ok : Nat → Bool} {f : Nat → Int → Int} {y : List z_V × z_M} (h : z_as L M t ok f st = some y) : ∃ (x i v : Int) (r : List z_V) (g : Nat × Nat), st = (t, x) :: (0, i) :: (2, v) :: r ∧ z_lay L v = some g ∧ ok g.1 = true ∧ 0 ≤ i ∧ i < g.2 ∧ y = (r, z_up M v i (f g.1 x)) := by
  unfold z_as at h
  split at h
  · rename_i x i v r
    obtain ⟨x1, x2⟩ := x
    obtain ⟨i1, i2⟩ := i
    obtain ⟨v1, v2⟩ := v
    split at h
    · rename_i h1
      obtain ⟨h1, h2, h3⟩ := h1
      dsimp only at h1 h2 h3 h
      subst h1; subst h2; subst h3
      split at h
      · rename_i g hg
        split at h
        · rename_i h3
          exact ⟨x2, i2, v2, r, g, rfl, hg, h3.1, h3.2.1, h3.2.2, (Option.some.inj h).symm⟩
        · cases h
      · cases h
    · cases h
  · cases h
end
