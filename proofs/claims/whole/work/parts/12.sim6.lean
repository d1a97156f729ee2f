theorem z_nf_ok : ∀ ci, ci < 11 → z_nf ci = (z_cl ci).2.2 ∧ z_nf ci ≤ 5000 := by decide +kernel
theorem z_def {sz : Nat} {ex : Int → Value} {ty : FieldType} {t b : Nat} (h : z_tk ty t b = true) : defaultValue ty = z_cv sz ex (t, 0) := by
  cases ty with
  | int =>
    have : t = 0 := by simpa [z_tk] using h
    subst this
    rfl
  | long =>
    have : t = 1 := by simpa [z_tk] using h
    subst this
    rfl
  | boolean =>
    have : t = 0 ∧ b = 1 := by simpa [z_tk] using h
    obtain ⟨rfl, h2⟩ := this
    rfl
  | object _ =>
    have : t = 2 := by simpa [z_tk] using h
    subst this
    rfl
  | array _ =>
    have : t = 2 := by simpa [z_tk] using h
    subst this
    rfl
  | _ => simp [z_tk] at h
theorem z_okv_mono {n k : Nat} {v : z_V} (h : z_okv n v) (hk : n ≤ k) : z_okv k v := ⟨h.1, h.2.1, fun q => by have := h.2.2 q; omega⟩
theorem z_okM_new {L : z_L} {M : z_M} {g : Nat × Nat} (h : z_okM L M) : z_okM (L ++ [g]) (z_clr M ((L.length : Int) + 1)) := by
  intro q g' hl i
  obtain ⟨q0, q1, q2⟩ := z_lay_sp hl
  rw [List.length_append] at q2 ⊢
  simp only [List.length_cons, List.length_nil] at q2 ⊢
  unfold z_clr
  by_cases hq : q = (L.length : Int) + 1
  · rw [if_pos hq]
    refine ⟨⟨fun _ => z_oi0, fun _ => ?_, fun _ => ?_⟩, fun _ => Int.le_refl 0⟩
    · show z_og 0
      unfold z_og
      omega
    · show (0 : Int) ≤ _
      omega
  · rw [if_neg hq]
    have hl' : z_lay L q = some g' := by
      unfold z_lay
      rw [if_pos q0]
      rw [List.getElem?_append_left (by omega)] at q1
      exact q1
    have := h q g' hl' i
    exact ⟨z_okv_mono this.1 (by omega), this.2⟩
theorem z_okL_new {L : z_L} {g : Nat × Nat} (h : z_okL L) (hg : g.1 < 16 ∧ g.2 ≤ 5000) : z_okL (L ++ [g]) := by
  intro x hx
  rcases List.mem_append.mp hx with hx | hx
  · exact h x hx
  · rw [List.mem_singleton.mp hx]
    exact hg
theorem z_tot_app {L : z_L} {g : Nat × Nat} : z_tot (L ++ [g]) = z_tot L + g.2 := by
  simp [z_tot]
section
variable {p : Program} {l : Launch} {e : Env} {R : Room} {s : State} {m : MethodId} {args : Array Value} {below : List Frame} {meth : Method} {c : Code} {Q : State → Prop} {D : va_G} {sz : Nat} {ex : Int → Value} {cy : Nat → ClassId} {n0 t0 nL : Nat} {xs : List Int} {o : Nat} {cc : ByteArray} {ini : Bool}
variable {pc len : Nat} {ls st st' : List z_V} {L : z_L} {M M' : z_M}
/-- a new cell: the row gives the heap with it -/
theorem z_hn (hsz : s.heap.size = sz + n0) {g : Nat × Nat} {r : List z_V} (hg : g.1 < 16 ∧ g.2 ≤ 5000) (hr : ∀ w ∈ r, w ∈ st) (row : ∀ (lsA : Array Slot) (H : Heap) (locs : List Loc) (cells slots : Nat), (∀ v ∈ st, z_okv L.length v) → H.size = sz + L.length → va_P D vwCl (z_wd sz ex cy L M) H → cells + n0 = L.length → slots + t0 = z_tot L →
      (∀ (H1 : Heap), va_at D vwCl (sz + L.length, z_ce sz ex cy g (fun _ => 0)) H1 → (∀ q, q < sz + L.length → H1[q]? = H[q]?) → H1.size = H.size + 1 → W p l e R s m args below meth c H1 locs (cells + 1) (slots + g.2) Q (F0 m (pc + len) lsA (.ref (sz + L.length) :: r.map (z_cv sz ex)))) → W p l e R s m args below meth c H locs cells slots Q (F0 m pc lsA (st.map (z_cv sz ex))))
    (k : z_G p l e R s m args below meth c Q D sz ex cy n0 t0 nL (pc + len, ls, (2, (L.length : Int) + 1) :: r, L ++ [g], z_clr M ((L.length : Int) + 1))) : z_G p l e R s m args below meth c Q D sz ex cy n0 t0 nL (pc, ls, st, L, M) := by
  intro lsA H locs cells slots hI h1 h2
  obtain ⟨i1, i2, i3, i4, i5, i6, i7⟩ := hI
  dsimp only at h1 h2
  refine z_szW hsz i1 i3 h1 (fun hH => row lsA H locs cells slots i6 hH i1 h1 h2 (fun H1 a1 a2 a3 => ?_))
  have hH : H.size = sz + L.length := hH
  have hk : ∀ (k : Nat) (x : Nat × va_E), (z_wd sz ex cy L M)[k]? = some x → H1[x.1]? = H[x.1]? := fun k x hx => a2 x.1 (by rw [← hH]; exact (i1 k x hx).lt)
  have hP : va_P D vwCl (z_wd sz ex cy (L ++ [g]) (z_clr M ((L.length : Int) + 1))) H1 := by
    rw [z_wd_app]
    refine (i1.kept hk).app (fun k x hx => ?_)
    have hz : k < 1 := (List.getElem?_eq_some_iff.mp hx).1
    rw [show k = 0 by omega] at hx
    cases hx
    exact a1
  have hl : ((L ++ [g]).length : Nat) = L.length + 1 := by simp
  have kk := k lsA H1 locs (cells + 1) (slots + g.2) ⟨hP, z_okL_new i2 hg, ⟨Nat.le_trans i3.1 (by omega), fun x g1 g2 => (a2 x (by have := i3.1; omega)).trans (i3.2.1 x g1 g2), i3.2.2⟩, z_okM_new i4, fun v hv => z_okv_mono (i5 v hv) (by rw [hl]; omega), fun v hv => ?_, i7⟩ (by show cells + 1 + n0 = (L ++ [g]).length; rw [hl]; omega) (by show slots + g.2 + t0 = z_tot (L ++ [g]); rw [z_tot_app]; omega)
  · have e1 : z_cv sz ex (2, (L.length : Int) + 1) = .ref (sz + L.length) := by
      rw [z_cv_r, z_rf_ref (by omega)]
      congr 2
      omega
    rw [List.map_cons, e1] at kk
    exact kk
  · rcases List.mem_cons.mp hv with rfl | hv
    · refine ⟨fun q => by simp at q, fun q => by simp at q, fun _ => ?_⟩
      show (L.length : Int) + 1 ≤ (((L ++ [g]).length : Nat) : Int)
      rw [hl]
      omega
    · exact z_okv_mono (i6 v (hr v hv)) (by rw [hl]; omega)
theorem z_new_g (X : z_Cx p s m args meth c D sz ex cy nL xs o cc ini n0) {ci idx : Nat} (hf : ((z_nlk o).any fun e => decide (e.1 = idx) && decide (e.2.1 = ci)) = true) (hd : decode cc pc = .ok (.new idx, 3)) (hR : L.length + 1 ≤ n0 + R.cells ∧ z_tot L + z_nf ci ≤ t0 + R.slots)
    (kk : z_G p l e R s m args below meth c Q D sz ex cy n0 t0 nL (pc + 3, ls, (2, (L.length : Int) + 1) :: st, L ++ [(ci + 5, z_nf ci)], z_clr M ((L.length : Int) + 1))) : z_G p l e R s m args below meth c Q D sz ex cy n0 t0 nL (pc, ls, st, L, M) := by
  obtain ⟨hx, hb, hml, hown, hts, hn, hK, hO, hsz, hini⟩ := X
  obtain ⟨g, hg, h1⟩ := List.any_eq_true.mp hf
  simp only [Bool.and_eq_true, decide_eq_true_eq] at h1
  obtain ⟨rfl, rfl⟩ := h1
  have ho : o < 41 := Decidable.byContradiction fun q => by rw [z_nlk_out q] at hg; cases hg
  have h2 := List.all_eq_true.mp (z_nlk_all o ho) g hg
  simp only [Bool.and_eq_true, decide_eq_true_eq] at h2
  obtain ⟨⟨⟨hci, w1⟩, w2⟩, w3⟩ := h2
  have hnf := z_nf_ok _ hci
  refine z_hn (len := 3) hsz (g := (g.2.1 + 5, z_nf g.2.1)) ⟨by show g.2.1 + 5 < 16; omega, hnf.2⟩ (fun w hw => hw) (fun lsA H locs cells slots _ hH i1 c1 c2 kw => ?_) kk
  have hKn := hK.1 g.2.1 _ (z_cl_at hci)
  refine W.newcK hx hb hown (hts _ (z_pw_in w1)) (hts _ (z_pw_in w2)) (hts _ (z_pw_in w3)) rfl hd (by omega) (by have := hR.2; rw [hnf.1] at this; omega) hKn.2.1 hH fun H1 kC hkC e1 z1 o1 => ?_
  rw [← hnf.1]
  refine kw H1 ?_ o1 (by rw [z1, hH])
  rw [z_ce_obj]
  refine ⟨_, z_cl_at hci, (u_born (z_fty g.2.1) hts (z_up_in hci) hKn hkC e1 (fun k hk => (z_fty_ok _ hci k hk).1)).to (fun j hj => ?_)⟩
  rw [z_def (sz := sz) (ex := ex) (z_fty_ok _ hci j hj).2]
  unfold vp_V
  rw [List.getD_eq_getElem?_getD, List.getElem?_map, List.getElem?_range hj]
  rfl
theorem z_nwa_sp {q : z_C} {k : Option Nat} {S : z_S} (h : z_nwa q pc ls st L M k = some S) : ∃ (n : Int) (r : List z_V) (j : Nat), k = some j ∧ st = (0, n) :: r ∧ 0 ≤ n ∧ n ≤ 5000 ∧ S = (pc + q.2.1, ls, (2, (L.length : Int) + 1) :: r, L ++ [(j, n.toNat)], z_clr M ((L.length : Int) + 1)) := by
  unfold z_nwa at h
  split at h
  · rename_i n r j
    obtain ⟨n1, n2⟩ := n
    split at h
    · rename_i h1
      obtain ⟨h1, h2, h3⟩ := h1
      dsimp only at h1 h2 h3 h
      subst h1
      exact ⟨n2, r, j, rfl, rfl, h2, h3, (Option.some.inj h).symm⟩
    · cases h
  · cases h
theorem z_cyo {k : Nat} {ty : FieldType} {cA : ClassId} (hK : va_K D vwCl (z_tys cy) s) (hk : (z_tys cy)[k]? = some (cy k, ty)) (hty : ∀ C, ty ≠ .object C) (hf : s.vm.findClass ("[" ++ ty.toString) = some cA) : cA = cy k := by
  have h := (hK.2 k _ hk).2
  unfold va_RA at h
  cases ty with
  | object C => exact absurd rfl (hty C)
  | _ => exact Option.some.inj (hf.symm.trans h)
theorem z_nwa_g (X : z_Cx p s m args meth c D sz ex cy nL xs o cc ini n0) {q : z_C} {t : Jvm.ClassFile.ArrayType} {S : z_S} (hd : decode cc pc = .ok (.newarray t, 2)) (hq : q.2.1 = 2) (h : z_nwa q pc ls st L M (z_atk t) = some S) (hR : S.2.2.2.1.length ≤ n0 + R.cells ∧ z_tot S.2.2.2.1 ≤ t0 + R.slots) (kk : z_G p l e R s m args below meth c Q D sz ex cy n0 t0 nL S) : z_G p l e R s m args below meth c Q D sz ex cy n0 t0 nL (pc, ls, st, L, M) := by
  obtain ⟨hx, hb, hml, hown, hts, hn, hK, hO, hsz, hini⟩ := X
  obtain ⟨n, r, j, hj, rfl, n1, n2, rfl⟩ := z_nwa_sp h
  rw [hq] at kk
  dsimp only at hR
  rw [z_tot_app, List.length_append, List.length_cons, List.length_nil] at hR
  have hoi : z_oi n := by unfold z_oi; omega
  have hnn : ¬ Int32.ofInt n < 0 := by
    rw [z_zero, z_lt32 hoi z_oi0]
    omega
  have hne : (Int32.ofInt n).toNatClampNeg = n.toNat := z_tnc hoi n1
  have main : ∀ (k : Nat), z_atk t = some k → k < 4 → (Cond.arrayClass (newarray.typeOf t)) ∈ z_ws → (z_tys cy)[k]? = some (cy k, newarray.typeOf t) → (∀ C, newarray.typeOf t ≠ .object C) → componentBytes (newarray.typeOf t) ≤ 8 → (∀ N, vp_cell (cy k) (match z_ce sz ex cy (k, N) (fun _ => 0) with | .inl a => a.2 | .inr _ => (0, .inl fun _ => 0)) = arrV (cy k) N (fun _ => defaultValue (newarray.typeOf t)) ∧ ∃ a, z_ce sz ex cy (k, N) (fun _ => 0) = .inl (cy k, a)) → z_G p l e R s m args below meth c Q D sz ex cy n0 t0 nL (pc, ls, (0, n) :: r, L, M) := by
    intro k hk hk4 hw hty hno hcb hce
    rw [hk] at hj
    have hkj := Option.some.inj hj
    subst hkj
    refine z_hn (len := 2) hsz (g := (k, n.toNat)) ⟨Nat.lt_trans hk4 (by decide), by show n.toNat ≤ 5000; omega⟩ (fun w hw => List.mem_cons_of_mem _ hw) (fun lsA H locs cells slots _ hH i1 c1 c2 kw => ?_) kk
    refine va_newaK hx hb (hts _ hw) rfl hd rfl hnn hne (by have : n.toNat * componentBytes (newarray.typeOf t) ≤ 5000 * 8 := Nat.mul_le_mul (by omega) hcb; omega) (by omega) (by omega) hH (fun H1 cA e1 z1 o1 _ hNm => ?_)
    refine kw H1 ?_ o1 (by rw [z1, hH])
    have := z_cyo hK hty hno hNm
    subst this
    obtain ⟨h5, a, h6⟩ := hce n.toNat
    rw [h6] at h5 ⊢
    show H1[sz + L.length]? = some (vp_cell (cy k) a)
    rw [e1]
    exact congrArg some h5.symm
  cases t with
  | int => exact main 0 rfl (by decide) (z_pw_in (n := 1164) (by decide +kernel)) rfl (fun C h => by cases h) (by decide) (fun N => ⟨rfl, _, rfl⟩)
  | long => exact main 1 rfl (by decide) (z_pw_in (n := 1163) (by decide +kernel)) rfl (fun C h => by cases h) (by decide) (fun N => ⟨rfl, _, rfl⟩)
  | byte => exact main 2 rfl (by decide) (z_pw_in (n := 2065) (by decide +kernel)) rfl (fun C h => by cases h) (by decide) (fun N => ⟨rfl, _, rfl⟩)
  | boolean => exact main 3 rfl (by decide) (z_pw_in (n := 3005) (by decide +kernel)) rfl (fun C h => by cases h) (by decide) (fun N => ⟨rfl, _, rfl⟩)
  | _ => cases hj
theorem z_anw_g (X : z_Cx p s m args meth c D sz ex cy nL xs o cc ini n0) {q : z_C} {idx : Nat} {S : z_S} (hf : ((z_nlk o).any fun e => decide (e.1 = idx) && decide (e.2.1 = 2)) = true) (hd : decode cc pc = .ok (.anewarray idx, 3)) (hq : q.2.1 = 3) (h : z_nwa q pc ls st L M (some 4) = some S) (hR : S.2.2.2.1.length ≤ n0 + R.cells ∧ z_tot S.2.2.2.1 ≤ t0 + R.slots) (kk : z_G p l e R s m args below meth c Q D sz ex cy n0 t0 nL S) : z_G p l e R s m args below meth c Q D sz ex cy n0 t0 nL (pc, ls, st, L, M) := by
  obtain ⟨hx, hb, hml, hown, hts, hn, hK, hO, hsz, hini⟩ := X
  obtain ⟨g, hg, h1⟩ := List.any_eq_true.mp hf
  simp only [Bool.and_eq_true, decide_eq_true_eq] at h1
  obtain ⟨rfl, h1⟩ := h1
  have ho : o < 41 := Decidable.byContradiction fun q => by rw [z_nlk_out q] at hg; cases hg
  have h2 := List.all_eq_true.mp (z_nlk_all o ho) g hg
  simp only [Bool.and_eq_true, decide_eq_true_eq, h1] at h2
  obtain ⟨⟨⟨hci, w1⟩, w2⟩, w3⟩ := h2
  obtain ⟨n, r, j, hj, rfl, n1, n2, rfl⟩ := z_nwa_sp h
  cases hj
  rw [hq] at kk
  dsimp only at hR
  rw [z_tot_app, List.length_append, List.length_cons, List.length_nil] at hR
  have hoi : z_oi n := by unfold z_oi; omega
  have hnn : ¬ Int32.ofInt n < 0 := by
    rw [z_zero, z_lt32 hoi z_oi0]
    omega
  have hne : (Int32.ofInt n).toNatClampNeg = n.toNat := z_tnc hoi n1
  refine z_hn (len := 3) hsz (g := (4, n.toNat)) ⟨show (4 : Nat) < 16 by decide, by show n.toNat ≤ 5000; omega⟩ (fun w hw => List.mem_cons_of_mem _ hw) (fun lsA H locs cells slots _ hH i1 c1 c2 kw => ?_) kk
  refine W.anew hx hb hown (hts _ (z_pw_in w1)) (va_AO.use hO.2.1) rfl hd rfl hnn (by show (Int32.ofInt n).toNatClampNeg * 4 ≤ _; rw [hne]; omega) (by omega) (by rw [hne]; omega) (fun cA kA comp f1 f2 f3 f4 => ?_)
  rw [hne, hH]
  refine kw _ ?_ (fun q hq => by rw [Array.getElem?_push, if_neg (by omega)]) (by simp)
  obtain ⟨kA', comp', g1, g2, g3, g4⟩ := (hK.2 4 (cy 4, .object RX2) rfl).2
  have : cA = cy 4 := Option.some.inj (f1.symm.trans g4)
  subst this
  show (H.push _)[sz + L.length]? = some (vp_cell (cy 4) (n.toNat, .inr (.inr (.inr (.inr (fun _ => z_ro sz 0))))))
  rw [← hH, Array.getElem?_push_size, arrV_new]
  rfl
end
