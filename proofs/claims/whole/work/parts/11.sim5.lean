theorem z_tx4_ok : ∀ x ∈ z_tx4, -128 ≤ x ∧ x < 128 := by decide +kernel
theorem z_tx5_ok : ∀ x ∈ z_tx5, -128 ≤ x ∧ x < 128 := by decide +kernel
theorem z_ce_i {sz : Nat} {ex : Int → Value} {cy : Nat → ClassId} {M : z_M} {n : Nat} {q i x : Int} (h0 : 0 ≤ i) : z_ce sz ex cy (0, n) (z_up M q i x q) = .inl (cy 0, n, .inl (upd (fun (j : Nat) => Int32.ofInt (M q j)) i.toNat (Int32.ofInt x))) := by
  rw [← z_upd_i h0]
  rfl
theorem z_ce_b {sz : Nat} {ex : Int → Value} {cy : Nat → ClassId} {M : z_M} {n : Nat} {q i x : Int} (h0 : 0 ≤ i) : z_ce sz ex cy (2, n) (z_up M q i x q) = .inl (cy 2, n, .inl (upd (fun (j : Nat) => Int32.ofInt (M q j)) i.toNat (Int32.ofInt x))) := by
  rw [← z_upd_i h0]
  rfl
theorem z_ce_z {sz : Nat} {ex : Int → Value} {cy : Nat → ClassId} {M : z_M} {n : Nat} {q i x : Int} (h0 : 0 ≤ i) : z_ce sz ex cy (3, n) (z_up M q i x q) = .inl (cy 3, n, .inl (upd (fun (j : Nat) => Int32.ofInt (M q j)) i.toNat (Int32.ofInt x))) := by
  rw [← z_upd_i h0]
  rfl
theorem z_ce_l {sz : Nat} {ex : Int → Value} {cy : Nat → ClassId} {M : z_M} {n : Nat} {q i x : Int} (h0 : 0 ≤ i) : z_ce sz ex cy (1, n) (z_up M q i x q) = .inl (cy 1, n, .inr (.inl (vp_updL (fun (j : Nat) => Int64.ofInt (M q j)) i.toNat (Int64.ofInt x)))) := by
  rw [← z_upd_l h0]
  rfl
theorem z_ce_q {sz : Nat} {ex : Int → Value} {cy : Nat → ClassId} {M : z_M} {n : Nat} {q i x : Int} (h0 : 0 ≤ i) (hx : 0 < x) : z_ce sz ex cy (4, n) (z_up M q i x q) = .inl (cy 4, n, .inr (.inr (.inr (.inr (va_up (fun (j : Nat) => z_ro sz (M q j)) i.toNat (some (sz + (x - 1).toNat))))))) := by
  rw [← z_upd_q h0 hx]
  rfl
section
variable {p : Program} {l : Launch} {e : Env} {R : Room} {s : State} {m : MethodId} {args : Array Value} {below : List Frame} {meth : Method} {c : Code} {Q : State → Prop} {D : va_G} {sz : Nat} {ex : Int → Value} {cy : Nat → ClassId} {n0 t0 nL : Nat} {xs : List Int} {o : Nat} {cc : ByteArray} {ini : Bool}
variable {pc len : Nat} {ls st st' : List z_V} {L : z_L} {M M' : z_M}
theorem z_hsL (h : z_okL L → z_G p l e R s m args below meth c Q D sz ex cy n0 t0 nL (pc, ls, st, L, M)) : z_G p l e R s m args below meth c Q D sz ex cy n0 t0 nL (pc, ls, st, L, M) := by
  intro lsA H locs cells slots hI w1 w2
  exact h hI.2.1 lsA H locs cells slots hI w1 w2
/-- an array's load inside -/
theorem z_hal {i v : Int} {r : List z_V} {t : Nat} {g : Nat × Nat} (hg : z_lay L v = some g) (ht : z_kt g.1 i.toNat = t)
    (row : ∀ (lsA : Array Slot) (H : Heap) (locs : List Loc) (cells slots : Nat) (rest : List Value), z_oi i → va_P D vwCl (z_wd sz ex cy L M) H → (t = 2 → 0 ≤ M v i) → W p l e R s m args below meth c H locs cells slots Q (F0 m (pc + 1) lsA (z_cv sz ex (t, M v i) :: rest)) → W p l e R s m args below meth c H locs cells slots Q (F0 m pc lsA (.int (Int32.ofInt i) :: .ref (sz + (v - 1).toNat) :: rest)))
    (kk : z_G p l e R s m args below meth c Q D sz ex cy n0 t0 nL (pc + 1, ls, (t, M v i) :: r, L, M)) : z_G p l e R s m args below meth c Q D sz ex cy n0 t0 nL (pc, ls, (0, i) :: (2, v) :: r, L, M) := by
  obtain ⟨q0, q1, q2⟩ := z_lay_sp hg
  intro lsA H locs cells slots hI w1 w2
  obtain ⟨i1, i2, i3, i4, i5, i6, i7⟩ := hI
  have hv := i4 _ _ hg i
  rw [ht] at hv
  show W p l e R s m args below meth c H locs cells slots Q (F0 m pc lsA (.int (Int32.ofInt i) :: z_rf sz ex v :: r.map (z_cv sz ex)))
  rw [z_rf_ref q0]
  refine row lsA H locs cells slots _ ((i6 _ List.mem_cons_self).1 rfl) i1 hv.2 (kk lsA H locs cells slots ⟨i1, i2, i3, i4, i5, fun w hw => ?_, i7⟩ w1 w2)
  rcases List.mem_cons.mp hw with rfl | hw
  · exact hv.1
  · exact i6 w (List.mem_cons_of_mem _ (List.mem_cons_of_mem _ hw))
theorem z_iald_g (X : z_Cx p s m args meth c D sz ex cy nL xs o cc ini n0) (hd : decode cc pc = .ok (.iaload, 1)) (h : z_al xs L M 0 (fun k => k == 0) st = some st') (kk : z_G p l e R s m args below meth c Q D sz ex cy n0 t0 nL (pc + 1, ls, st', L, M)) : z_G p l e R s m args below meth c Q D sz ex cy n0 t0 nL (pc, ls, st, L, M) := by
  obtain ⟨hx, hb, hml, hown, hts, hn, hK, hO, hsz, hini⟩ := X
  obtain ⟨i, v, r, rfl, ⟨hv, hk, h0, x, hxs, rfl⟩ | ⟨hv, g, hg, hk, h0, h1, rfl⟩⟩ := z_al_sp h
  · have hv1 : v = -1 := by
      by_cases h9 : v = -1
      · exact h9
      · rw [if_neg h9] at hk
        exact absurd hk (by decide)
    subst hv1
    obtain ⟨-, -, -, -, -, ⟨b, hb1, hT⟩, hxo, hxl⟩ := hO
    have hxs : xs[i.toNat]? = some x := hxs
    have hlt := (List.getElem?_eq_some_iff.mp hxs).1
    refine z_hs (fun lsA H locs cells slots hI kw => ?_) (fun h w hw => ?_) kk
    · have hi := (hI.2.2.2.2.2.1 _ List.mem_cons_self).1 rfl
      dsimp only at hi
      show W p l e R s m args below meth c H locs cells slots Q (F0 m pc lsA (.int (Int32.ofInt i) :: z_cv sz ex (2, -1) :: r.map (z_cv sz ex)))
      have e1 : z_cv sz ex (2, -1) = .ref b := hb1
      rw [e1]
      exact va_ti hx hb hT hI.2.2.1 (z_vin hi h0 (by omega)) (v := .int (Int32.ofInt x)) (by rw [z_tnc hi h0, List.getD_eq_getElem?_getD, hxs]; rfl) hd kw
    · rcases List.mem_cons.mp hw with rfl | hw
      · exact z_okv_i (hxo x (List.mem_of_getElem? hxs))
      · exact h w (List.mem_cons_of_mem _ (List.mem_cons_of_mem _ hw))
  · obtain ⟨g1, g2⟩ := g
    have : g1 = 0 := by simpa using hk
    subst this
    refine z_hal hg rfl (fun lsA H locs cells slots rest hi i1 _ kw => ?_) kk
    refine va_iald (D := D) (cl := vwCl) (tys := z_tys cy) hx hb hK i1 _ 0 (z_wd_at hg) rfl (z_vin hi h0 h1) hd ?_
    rw [z_tnc hi h0, show (((i.toNat : Nat)) : Int) = i by omega]
    exact kw
theorem z_lald_g (X : z_Cx p s m args meth c D sz ex cy nL xs o cc ini n0) (hd : decode cc pc = .ok (.laload, 1)) (h : z_al xs L M 1 (fun k => k == 1) st = some st') (kk : z_G p l e R s m args below meth c Q D sz ex cy n0 t0 nL (pc + 1, ls, st', L, M)) : z_G p l e R s m args below meth c Q D sz ex cy n0 t0 nL (pc, ls, st, L, M) := by
  obtain ⟨hx, hb, hml, hown, hts, hn, hK, hO, hsz, hini⟩ := X
  obtain ⟨i, v, r, rfl, ⟨hv, hk, h0, x, hxs, rfl⟩ | ⟨hv, g, hg, hk, h0, h1, rfl⟩⟩ := z_al_sp h
  · split at hk <;> exact absurd hk (by decide)
  · obtain ⟨g1, g2⟩ := g
    have : g1 = 1 := by simpa using hk
    subst this
    refine z_hal hg rfl (fun lsA H locs cells slots rest hi i1 _ kw => ?_) kk
    refine va_lald (D := D) (cl := vwCl) (tys := z_tys cy) hx hb hK i1 _ 1 (z_wd_at hg) rfl (z_vin hi h0 h1) hd ?_
    rw [z_tnc hi h0, show (((i.toNat : Nat)) : Int) = i by omega]
    exact kw
theorem z_aald_g (X : z_Cx p s m args meth c D sz ex cy nL xs o cc ini n0) (hd : decode cc pc = .ok (.aaload, 1)) (h : z_al xs L M 2 (fun k => k == 4) st = some st') (kk : z_G p l e R s m args below meth c Q D sz ex cy n0 t0 nL (pc + 1, ls, st', L, M)) : z_G p l e R s m args below meth c Q D sz ex cy n0 t0 nL (pc, ls, st, L, M) := by
  obtain ⟨hx, hb, hml, hown, hts, hn, hK, hO, hsz, hini⟩ := X
  obtain ⟨i, v, r, rfl, ⟨hv, hk, h0, x, hxs, rfl⟩ | ⟨hv, g, hg, hk, h0, h1, rfl⟩⟩ := z_al_sp h
  · split at hk <;> exact absurd hk (by decide)
  · obtain ⟨g1, g2⟩ := g
    have : g1 = 4 := by simpa using hk
    subst this
    refine z_hal hg rfl (fun lsA H locs cells slots rest hi i1 hnn kw => ?_) kk
    refine va_aldq (D := D) (cl := vwCl) (tys := z_tys cy) hx hb hK i1 _ 4 (z_wd_at hg) rfl (z_vin hi h0 h1) hd ?_
    rw [z_tnc hi h0, show (((i.toNat : Nat)) : Int) = i by omega]
    have e1 : va_rf (z_ro sz (M v i)) = z_cv sz ex (2, M v i) := by
      rw [z_cv_r]
      have := hnn rfl
      unfold z_ro z_rf
      by_cases hz : M v i = 0
      · rw [if_pos (by omega), if_pos hz]
        rfl
      · rw [if_neg (by omega), if_neg hz, if_neg (by omega)]
        rfl
    rw [e1]
    exact kw
theorem z_bald_g (X : z_Cx p s m args meth c D sz ex cy nL xs o cc ini n0) (hd : decode cc pc = .ok (.baload, 1)) (h : z_al xs L M 0 (fun k => k == 2 || k == 3) st = some st') (kk : z_G p l e R s m args below meth c Q D sz ex cy n0 t0 nL (pc + 1, ls, st', L, M)) : z_G p l e R s m args below meth c Q D sz ex cy n0 t0 nL (pc, ls, st, L, M) := by
  obtain ⟨hx, hb, hml, hown, hts, hn, hK, hO, hsz, hini⟩ := X
  obtain ⟨i, v, r, rfl, ⟨hv, hk, h0, x, hxs, rfl⟩ | ⟨hv, g, hg, hk, h0, h1, rfl⟩⟩ := z_al_sp h
  · have hv1 : ¬ v = -1 := by
      intro h9
      rw [if_pos h9] at hk
      exact absurd hk (by decide)
    obtain ⟨-, -, ⟨adK, adV, h3, e2, e3, e4, e5, -⟩, -⟩ := hO
    unfold z_xt at hxs
    rw [if_neg hv1] at hxs
    by_cases hv4 : v = -4
    · subst hv4
      rw [if_pos rfl] at hxs
      have hlt := (List.getElem?_eq_some_iff.mp hxs).1
      have hT := (h3.1 0 (by decide)).2.2.2
      refine z_hs (fun lsA H locs cells slots hI kw => ?_) (fun h w hw => ?_) kk
      · have hi := (hI.2.2.2.2.2.1 _ List.mem_cons_self).1 rfl
        dsimp only at hi
        show W p l e R s m args below meth c H locs cells slots Q (F0 m pc lsA (.int (Int32.ofInt i) :: z_cv sz ex (2, -4) :: r.map (z_cv sz ex)))
        have e1 : z_cv sz ex (2, -4) = .ref (adV 0) := e4
        rw [e1]
        refine va_tb hx hb hT hI.2.2.1 (z_vin hi h0 (by show i < (z_tx4.length : Nat); omega)) (v := .int (Int32.ofInt x)) ?_ hd kw
        rw [z_tnc hi h0]
        show Value.int ((z_tx4.map Int32.ofInt).getD i.toNat 0) = _
        rw [List.getD_eq_getElem?_getD, List.getElem?_map, hxs]
        rfl
      · rcases List.mem_cons.mp hw with rfl | hw
        · have := z_tx4_ok x (List.mem_of_getElem? hxs)
          exact z_okv_i (by unfold z_oi; omega)
        · exact h w (List.mem_cons_of_mem _ (List.mem_cons_of_mem _ hw))
    · rw [if_neg hv4] at hxs
      by_cases hv5 : v = -5
      · subst hv5
        rw [if_pos rfl] at hxs
        have hlt := (List.getElem?_eq_some_iff.mp hxs).1
        have hT := (h3.1 1 (by decide)).2.2.2
        refine z_hs (fun lsA H locs cells slots hI kw => ?_) (fun h w hw => ?_) kk
        · have hi := (hI.2.2.2.2.2.1 _ List.mem_cons_self).1 rfl
          dsimp only at hi
          show W p l e R s m args below meth c H locs cells slots Q (F0 m pc lsA (.int (Int32.ofInt i) :: z_cv sz ex (2, -5) :: r.map (z_cv sz ex)))
          have e1 : z_cv sz ex (2, -5) = .ref (adV 1) := e5
          rw [e1]
          refine va_tb hx hb hT hI.2.2.1 (z_vin hi h0 (by show i < (z_tx5.length : Nat); omega)) (v := .int (Int32.ofInt x)) ?_ hd kw
          rw [z_tnc hi h0]
          show Value.int ((z_tx5.map Int32.ofInt).getD i.toNat 0) = _
          rw [List.getD_eq_getElem?_getD, List.getElem?_map, hxs]
          rfl
        · rcases List.mem_cons.mp hw with rfl | hw
          · have := z_tx5_ok x (List.mem_of_getElem? hxs)
            exact z_okv_i (by unfold z_oi; omega)
          · exact h w (List.mem_cons_of_mem _ (List.mem_cons_of_mem _ hw))
      · rw [if_neg hv5] at hxs
        cases hxs
  · obtain ⟨g1, g2⟩ := g
    have : g1 = 2 ∨ g1 = 3 := by simpa using hk
    rcases this with rfl | rfl
    · refine z_hal hg rfl (fun lsA H locs cells slots rest hi i1 _ kw => ?_) kk
      refine va_bald (D := D) (cl := vwCl) (tys := z_tys cy) hx hb hK i1 _ 2 (z_wd_at hg) rfl (z_vin hi h0 h1) hd ?_
      rw [z_tnc hi h0, show (((i.toNat : Nat)) : Int) = i by omega]
      exact kw
    · refine z_hal hg rfl (fun lsA H locs cells slots rest hi i1 _ kw => ?_) kk
      refine va_zald (D := D) (cl := vwCl) (tys := z_tys cy) hx hb hK i1 _ 3 (z_wd_at hg) rfl (z_vin hi h0 h1) hd ?_
      rw [z_tnc hi h0, show (((i.toNat : Nat)) : Int) = i by omega]
      exact kw
/-- an array's store -/
theorem z_has {x i v y : Int} {t : Nat} {r : List z_V} {g : Nat × Nat} (hg : z_lay L v = some g) (ht : z_kt g.1 i.toNat = t) (hy : z_okv L.length (t, x) → z_okv L.length (t, y)) (hnn : t = 2 → 0 ≤ y)
    (row : ∀ (lsA : Array Slot) (H : Heap) (locs : List Loc) (cells slots : Nat) (rest : List Value), z_oi i → va_P D vwCl (z_wd sz ex cy L M) H → va_S (fun q : Nat => sz ≤ q) s.heap H locs → (∀ (H1 : Heap) (locs1 : List Loc), va_P D vwCl (z_wd sz ex cy L (z_up M v i y)) H1 → va_S (fun q : Nat => sz ≤ q) s.heap H1 locs1 → W p l e R s m args below meth c H1 locs1 cells slots Q (F0 m (pc + 1) lsA rest)) → W p l e R s m args below meth c H locs cells slots Q (F0 m pc lsA (z_cv sz ex (t, x) :: .int (Int32.ofInt i) :: .ref (sz + (v - 1).toNat) :: rest)))
    (kk : z_G p l e R s m args below meth c Q D sz ex cy n0 t0 nL (pc + 1, ls, r, L, z_up M v i y)) : z_G p l e R s m args below meth c Q D sz ex cy n0 t0 nL (pc, ls, (t, x) :: (0, i) :: (2, v) :: r, L, M) := by
  obtain ⟨q0, q1, q2⟩ := z_lay_sp hg
  intro lsA H locs cells slots hI w1 w2
  obtain ⟨i1, i2, i3, i4, i5, i6, i7⟩ := hI
  show W p l e R s m args below meth c H locs cells slots Q (F0 m pc lsA (z_cv sz ex (t, x) :: .int (Int32.ofInt i) :: z_rf sz ex v :: r.map (z_cv sz ex)))
  rw [z_rf_ref q0]
  have hxo := i6 _ List.mem_cons_self
  refine row lsA H locs cells slots _ ((i6 _ (List.mem_cons_of_mem _ List.mem_cons_self)).1 rfl) i1 i3 (fun H1 locs1 a1 a2 => kk lsA H1 locs1 cells slots ⟨a1, i2, a2, z_okM_up i4 hg (by rw [ht]; exact hy hxo) (by rw [ht]; exact hnn), i5, fun w hw => ?_, i7⟩ w1 w2)
  exact i6 w (List.mem_cons_of_mem _ (List.mem_cons_of_mem _ (List.mem_cons_of_mem _ hw)))
theorem z_iast_g (X : z_Cx p s m args meth c D sz ex cy nL xs o cc ini n0) (hd : decode cc pc = .ok (.iastore, 1)) {y : List z_V × z_M} (h : z_as L M 0 (fun k => k == 0) (fun _ x => x) st = some y) (kk : z_G p l e R s m args below meth c Q D sz ex cy n0 t0 nL (pc + 1, ls, y.1, L, y.2)) : z_G p l e R s m args below meth c Q D sz ex cy n0 t0 nL (pc, ls, st, L, M) := by
  obtain ⟨hx, hb, hml, hown, hts, hn, hK, hO, hsz, hini⟩ := X
  obtain ⟨x, i, v, r, g, rfl, hg, hk, h0, h1, rfl⟩ := z_as_sp h
  obtain ⟨g1, g2⟩ := g
  have : g1 = 0 := by simpa using hk
  subst this
  refine z_has hg rfl id (fun q => by cases q) (fun lsA H locs cells slots rest hi i1 i3 kw => ?_) kk
  refine va_iast (D := D) (cl := vwCl) (tys := z_tys cy) hx hb hK i1 z_wd_D i3 _ 0 (z_wd_at hg) rfl (z_vin hi h0 h1) hd (fun H1 locs1 a1 _ a2 => kw H1 locs1 ?_ a2)
  rw [z_tnc hi h0, z_wd_upd (M' := z_up M v i x) hg z_up_ne (z_ce_i h0)] at a1
  exact a1
theorem z_last_g (X : z_Cx p s m args meth c D sz ex cy nL xs o cc ini n0) (hd : decode cc pc = .ok (.lastore, 1)) {y : List z_V × z_M} (h : z_as L M 1 (fun k => k == 1) (fun _ x => x) st = some y) (kk : z_G p l e R s m args below meth c Q D sz ex cy n0 t0 nL (pc + 1, ls, y.1, L, y.2)) : z_G p l e R s m args below meth c Q D sz ex cy n0 t0 nL (pc, ls, st, L, M) := by
  obtain ⟨hx, hb, hml, hown, hts, hn, hK, hO, hsz, hini⟩ := X
  obtain ⟨x, i, v, r, g, rfl, hg, hk, h0, h1, rfl⟩ := z_as_sp h
  obtain ⟨g1, g2⟩ := g
  have : g1 = 1 := by simpa using hk
  subst this
  refine z_has hg rfl id (fun q => by cases q) (fun lsA H locs cells slots rest hi i1 i3 kw => ?_) kk
  refine va_last (D := D) (cl := vwCl) (tys := z_tys cy) hx hb hK i1 z_wd_D i3 _ 1 (z_wd_at hg) rfl (z_vin hi h0 h1) hd (fun H1 locs1 a1 _ a2 => kw H1 locs1 ?_ a2)
  rw [z_tnc hi h0, z_wd_upd (M' := z_up M v i x) hg z_up_ne (z_ce_l h0)] at a1
  exact a1
theorem z_bast_g (X : z_Cx p s m args meth c D sz ex cy nL xs o cc ini n0) (hd : decode cc pc = .ok (.bastore, 1)) {y : List z_V × z_M} (h : z_as L M 0 (fun k => k == 2 || k == 3) (fun k x => if k = 2 then z_i2b x else z_and x 1) st = some y) (kk : z_G p l e R s m args below meth c Q D sz ex cy n0 t0 nL (pc + 1, ls, y.1, L, y.2)) : z_G p l e R s m args below meth c Q D sz ex cy n0 t0 nL (pc, ls, st, L, M) := by
  obtain ⟨hx, hb, hml, hown, hts, hn, hK, hO, hsz, hini⟩ := X
  obtain ⟨x, i, v, r, g, rfl, hg, hk, h0, h1, rfl⟩ := z_as_sp h
  obtain ⟨g1, g2⟩ := g
  have : g1 = 2 ∨ g1 = 3 := by simpa using hk
  rcases this with rfl | rfl
  · refine z_has (y := z_i2b x) hg rfl (fun _ => z_okv_i (z_i_oi _)) (fun q => by cases q) (fun lsA H locs cells slots rest hi i1 i3 kw => ?_) kk
    refine va_bast (D := D) (cl := vwCl) (tys := z_tys cy) hx hb hK i1 z_wd_D i3 _ 2 (z_wd_at hg) rfl (z_vin hi h0 h1) hd (fun H1 locs1 a1 _ a2 => kw H1 locs1 ?_ a2)
    rw [z_tnc hi h0, vp_nar_byte, show (Int32.ofInt x).toInt8.toInt32 = Int32.ofInt (z_i2b x) from (Int32.ofInt_toInt _).symm, z_wd_upd (M' := z_up M v i (z_i2b x)) hg z_up_ne (z_ce_b h0)] at a1
    exact a1
  · refine z_has (y := z_and x 1) hg rfl (fun _ => z_okv_i (z_i_oi _)) (fun q => by cases q) (fun lsA H locs cells slots rest hi i1 i3 kw => ?_) kk
    refine va_zast (D := D) (cl := vwCl) (tys := z_tys cy) hx hb hK i1 z_wd_D i3 _ 3 (z_wd_at hg) rfl (z_vin hi h0 h1) hd (fun H1 locs1 a1 _ a2 => kw H1 locs1 ?_ a2)
    rw [z_tnc hi h0, show vp_nar .boolean (Int32.ofInt x) = Int32.ofInt (z_and x 1) from (Int32.ofInt_toInt _).symm, z_wd_upd (M' := z_up M v i (z_and x 1)) hg z_up_ne (z_ce_z h0)] at a1
    exact a1
theorem z_aast_g (X : z_Cx p s m args meth c D sz ex cy nL xs o cc ini n0) (hd : decode cc pc = .ok (.aastore, 1)) {y : List z_V × z_M} (h : z_aas L M st = some y) (kk : z_G p l e R s m args below meth c Q D sz ex cy n0 t0 nL (pc + 1, ls, y.1, L, y.2)) : z_G p l e R s m args below meth c Q D sz ex cy n0 t0 nL (pc, ls, st, L, M) := by
  obtain ⟨hx, hb, hml, hown, hts, hn, hK, hO, hsz, hini⟩ := X
  unfold z_aas at h
  split at h
  · rename_i x i v r
    obtain ⟨x1, x2⟩ := x
    obtain ⟨i1, i2⟩ := i
    obtain ⟨v1, v2⟩ := v
    split at h
    · rename_i h1
      obtain ⟨h1, h2, h3⟩ := h1
      dsimp only at h1 h2 h3 h
      subst h1; subst h2; subst h3
      split at h
      · rename_i g gx hg hgx
        split at h
        · rename_i h3
          obtain ⟨⟨h3, h4⟩, h0, h1⟩ := h3
          cases h
          obtain ⟨g1, g2⟩ := g
          obtain ⟨k1, k2⟩ := gx
          dsimp only at h3 h4 h1
          subst h3; subst h4
          obtain ⟨q0, q1, q2⟩ := z_lay_sp hgx
          refine z_has (t := 2) hg rfl id (fun _ => Int.le_of_lt q0) (fun lsA H locs cells slots rest hi i1 i3 kw => ?_) kk
          rw [z_cv_r, z_rf_ref q0]
          refine va_astq (D := D) (cl := vwCl) (tys := z_tys cy) (r := (RX2, TX2, 8)) hx hb hK i1 z_wd_D i3 _ 4 (x2 - 1).toNat 2 (z_wd_at hg) rfl (z_wd_at hgx) rfl (z_vin hi h0 h1) hd (fun H1 locs1 a1 _ a2 => kw H1 locs1 ?_ a2)
          rw [z_tnc hi h0, z_wd_upd (M' := z_up M v2 i2 x2) hg z_up_ne (z_ce_q h0 q0)] at a1
          exact a1
        · cases h
      · cases h
    · cases h
  · cases h
theorem z_len_g (X : z_Cx p s m args meth c D sz ex cy nL xs o cc ini n0) (hd : decode cc pc = .ok (.arraylength, 1)) (h : z_len xs L st = some st') (kk : z_G p l e R s m args below meth c Q D sz ex cy n0 t0 nL (pc + 1, ls, st', L, M)) : z_G p l e R s m args below meth c Q D sz ex cy n0 t0 nL (pc, ls, st, L, M) := by
  obtain ⟨hx, hb, hml, hown, hts, hn, hK, hO, hsz, hini⟩ := X
  unfold z_len at h
  split at h
  · rename_i v r
    obtain ⟨v1, v2⟩ := v
    split at h
    · rename_i h1
      dsimp only at h1 h
      subst h1
      split at h
      · split at h
        · rename_i hv0 hv
          cases h
          obtain ⟨-, -, ⟨adK, adV, h3, e2, e3, e4, e5, -⟩, -, -, ⟨b, hb1, hT⟩, hxo, hxl⟩ := hO
          have hok : z_oi ((z_xt xs v2).length : Int) := by
            rcases hv with rfl | rfl | rfl
            · show z_oi (xs.length : Int)
              unfold z_oi
              omega
            · show z_oi (z_tx4.length : Int)
              unfold z_oi
              decide +kernel
            · show z_oi (z_tx5.length : Int)
              unfold z_oi
              decide +kernel
          refine z_hs (fun lsA H locs cells slots hI kw => ?_) (fun h w hw => ?_) kk
          · show W p l e R s m args below meth c H locs cells slots Q (F0 m pc lsA (z_cv sz ex (2, v2) :: r.map (z_cv sz ex)))
            rcases hv with rfl | rfl | rfl
            · have e1 : z_cv sz ex (2, -1) = .ref b := hb1
              rw [e1]
              exact va_tlen hx hb hT hI.2.2.1 rfl hd kw
            · have e1 : z_cv sz ex (2, -4) = .ref (adV 0) := e4
              rw [e1]
              exact va_tlen hx hb (h3.1 0 (by decide)).2.2.2 hI.2.2.1 rfl hd kw
            · have e1 : z_cv sz ex (2, -5) = .ref (adV 1) := e5
              rw [e1]
              exact va_tlen hx hb (h3.1 1 (by decide)).2.2.2 hI.2.2.1 rfl hd kw
          · rcases List.mem_cons.mp hw with rfl | hw
            · exact z_okv_i hok
            · exact h w (List.mem_cons_of_mem _ hw)
        · cases h
      · split at h
        · rename_i g hg
          split at h
          · rename_i hg5
            cases h
            obtain ⟨g1, g2⟩ := g
            obtain ⟨q0, q1, q2⟩ := z_lay_sp hg
            dsimp only at hg5
            refine z_hsL (fun hL => ?_)
            have hgl := (hL _ (List.mem_of_getElem? q1)).2
            dsimp only at hgl
            refine z_hs (fun lsA H locs cells slots hI kw => ?_) (fun h w hw => ?_) kk
            · show W p l e R s m args below meth c H locs cells slots Q (F0 m pc lsA (z_rf sz ex v2 :: r.map (z_cv sz ex)))
              rw [z_rf_ref q0]
              have i1 := hI.1
              match g1, hg5 with
              | 0, _ => exact va_alen (D := D) (cl := vwCl) (tys := z_tys cy) hx hb hK i1 _ 0 (z_wd_at hg) rfl rfl hd kw
              | 1, _ => exact va_alen (D := D) (cl := vwCl) (tys := z_tys cy) hx hb hK i1 _ 1 (z_wd_at hg) rfl rfl hd kw
              | 2, _ => exact va_alen (D := D) (cl := vwCl) (tys := z_tys cy) hx hb hK i1 _ 2 (z_wd_at hg) rfl rfl hd kw
              | 3, _ => exact va_alen (D := D) (cl := vwCl) (tys := z_tys cy) hx hb hK i1 _ 3 (z_wd_at hg) rfl rfl hd kw
              | 4, _ => exact va_alen (D := D) (cl := vwCl) (tys := z_tys cy) hx hb hK i1 _ 4 (z_wd_at hg) rfl rfl hd kw
            · rcases List.mem_cons.mp hw with rfl | hw
              · exact z_okv_i (by show z_oi (g2 : Int); unfold z_oi; omega)
              · exact h w (List.mem_cons_of_mem _ hw)
          · cases h
        · cases h
    · cases h
  · cases h
end
