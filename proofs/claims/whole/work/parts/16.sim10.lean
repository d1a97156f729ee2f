theorem z_pay {big ws : List Cond} {args : Array Value} {s : State} (hts : ∀ w ∈ big, w.before args s = true) (h : GoodIn big ws) : ∀ w ∈ ws, ∀ (a' : Array Value) (U : State), s.WarmedH U.vm → w.before a' U = true := pay_in hts h
theorem z_ms_len : z_ms.length = 297 := by decide +kernel
theorem z_narrow_char {v : Int} (h : 0 ≤ v ∧ v < 65536) : narrow .char (.int (Int32.ofInt v)) = .int (Int32.ofInt v) := by
  obtain ⟨q, hq⟩ : ∃ q : Nat, v = (q : Int) := ⟨v.toNat, by omega⟩
  subst hq
  exact (pk_charN (q := q) (by omega)).1
theorem z_narrow_byte {v : Int} (h : -128 ≤ v ∧ v < 128) : narrow .byte (.int (Int32.ofInt v)) = .int (Int32.ofInt v) := by
  show Value.int ((Int32.ofInt v).toInt8.toInt32) = _
  congr 1
  apply Int32.toInt_inj.mp
  rw [Int8.toInt_toInt32, Int32.toInt_toInt8, z_ofto (by unfold z_oi; omega)]
  simp only [Int.bmod_def]
  omega
theorem z_narrow_z {v : Int} (h : v = 0 ∨ v = 1) : narrow .boolean (.int (Int32.ofInt v)) = .int (Int32.ofInt v) := by
  rcases h with rfl | rfl <;> decide
theorem z_exp_sl {sz : Nat} {ex : Int → Value} (hex : ∀ x, ex x = .null ∨ ∃ a, ex x = .ref a) : ∀ (as : List z_V), (∀ v ∈ as, v.1 < 3) → lg_sl (as.map (z_cv sz ex)) = (z_exp as).map (fun v => if v.1 < 3 then Slot.val (z_cv sz ex v) else Slot.second)
  | [], _ => rfl
  | v :: r, h => by
    have ih := z_exp_sl (sz := sz) hex r (fun w hw => h w (List.mem_cons_of_mem _ hw))
    have hv := h v List.mem_cons_self
    have e0 : lg_sl ((v :: r).map (z_cv sz ex)) = (if (z_cv sz ex v).category = 2 then [Slot.val (z_cv sz ex v), .second] else [Slot.val (z_cv sz ex v)]) ++ lg_sl (r.map (z_cv sz ex)) := by
      simp [lg_sl]
    have ee : z_exp (v :: r) = if v.1 = 1 then v :: (3, 0) :: z_exp r else v :: z_exp r := rfl
    rw [e0, ih, z_cv_cat hex, ee]
    by_cases h1 : v.1 = 1
    · rw [if_pos h1, if_pos h1, if_pos rfl, List.map_cons, List.map_cons, if_pos hv]
      rfl
    · rw [if_neg h1, if_neg h1, if_neg (by decide), List.map_cons, if_pos hv]
      rfl
theorem z_exp_len : ∀ (as : List z_V), (z_exp as).length = (as.map (fun v => v.1)).length + ((as.map (fun v => v.1)).filter (fun x => x == 1)).length
  | [] => rfl
  | v :: r => by
    have ih := z_exp_len r
    unfold z_exp
    by_cases h1 : v.1 = 1
    · rw [if_pos h1]
      simp only [List.length_cons, List.map_cons, ih]
      rw [List.filter_cons, if_pos (by simpa using h1)]
      simp only [List.length_cons]
      omega
    · rw [if_neg h1]
      simp only [List.length_cons, List.map_cons, ih]
      rw [List.filter_cons, if_neg (by simpa using h1)]
      omega
theorem z_exp_ok {n : Nat} : ∀ (as : List z_V), (∀ v ∈ as, z_okv n v) → ∀ v ∈ z_exp as, z_okv n v
  | [], _ => fun v hv => by cases hv
  | a :: r, h => by
    have ih := z_exp_ok r (fun w hw => h w (List.mem_cons_of_mem _ hw))
    intro v hv
    unfold z_exp at hv
    split at hv
    · rcases List.mem_cons.mp hv with rfl | hv
      · exact h _ List.mem_cons_self
      · rcases List.mem_cons.mp hv with rfl | hv
        · exact ⟨fun q => by simp at q, fun q => by simp at q, fun q => by simp at q⟩
        · exact ih v hv
    · rcases List.mem_cons.mp hv with rfl | hv
      · exact h _ List.mem_cons_self
      · exact ih v hv
/-- the locals at a method's entry -/
theorem z_ent_lh {sz : Nat} {ex : Int → Value} (hex : ∀ x, ex x = .null ∨ ∃ a, ex x = .ref a) {μ : z_D} {as : List z_V} (h3 : ∀ v ∈ as, v.1 < 3) (ht : as.map (fun v => v.1) = μ.2.2.1) (hl : μ.2.2.1.length + (μ.2.2.1.filter (fun x => x == 1)).length ≤ μ.2.1) :
    z_lh sz ex ((lg_sl (as.map (z_cv sz ex)) ++ List.replicate (μ.2.1 - (lg_sl (as.map (z_cv sz ex))).length) Slot.unset).toArray) μ.2.1 (z_ent μ as) := by
  have e1 := z_exp_sl (sz := sz) hex as h3
  have e2 : (lg_sl (as.map (z_cv sz ex))).length = (z_exp as).length := by rw [e1, List.length_map]
  have e3 := z_exp_len as
  rw [ht] at e3
  have hv := lv_entry (as.map (z_cv sz ex)) (n := μ.2.1) (by rw [e2]; omega)
  refine ⟨hv.1, ?_, hv.2.1, fun i v hi hv3 => ?_⟩
  · unfold z_ent
    rw [List.length_append, List.length_replicate]
    omega
  · unfold z_ent at hi
    rw [List.getElem?_append] at hi
    split at hi
    · rename_i hlt
      rw [List.getElem?_toArray, List.getElem?_append_left (by rw [e2]; exact hlt), e1, List.getElem?_map, hi]
      show some (if v.1 < 3 then Slot.val (z_cv sz ex v) else Slot.second) = _
      rw [if_pos hv3]
    · rw [List.getElem?_replicate] at hi
      split at hi
      · cases hi
        exact absurd hv3 (by decide)
      · cases hi
section
variable {p : Program} {l : Launch} {e : Env} {R : Room} {s : State} {m : MethodId} {args : Array Value} {below : List Frame} {meth : Method} {c : Code} {Q : State → Prop} {D : va_G} {sz : Nat} {ex : Int → Value} {cy : Nat → ClassId} {n0 t0 nL : Nat} {xs : List Int} {o : Nat} {cc : ByteArray} {ini : Bool}
variable {pc len : Nat} {ls st st' : List z_V} {L : z_L} {M M' : z_M}
/-- behind a call -/
theorem z_cont {lsA : Array Slot} {H : Heap} {locs : List Loc} {cells slots mc ms : Nat} {st0 rest : List Value} {a : Array Value} {r : Option z_V} {L' : z_L} (hr : va_Run p l e R s m args below meth c H locs cells slots mc ms (F0 m pc lsA st0) rest (z_Qc sz ex cy D L r L' M' a) (fun q : Nat => sz ≤ q)) (hS : va_S (fun q : Nat => sz ≤ q) s.heap H locs)
    (kk : ∀ (H1 : Heap) (locs1 : List Loc), va_P D vwCl (z_wd sz ex cy L' M') H1 → z_okL L' → z_okM L' M' → (∀ v, r = some v → z_okv L'.length v) → va_S (fun q : Nat => sz ≤ q) s.heap H1 locs1 → W p l e R s m args below meth c H1 locs1 (cells + mc) (slots + ms) Q (F0 m (pc + 3) lsA ((z_ol r).map (z_cv sz ex) ++ rest))) : W p l e R s m args below meth c H locs cells slots Q (F0 m pc lsA st0) := by
  intro T hT X
  obtain ⟨v, st₀, t, T', LL, h0, X', hL, e1, e2, hq, st⟩ := hr T hT X
  obtain ⟨q1, q2, q3, q4, q5, hz, hk⟩ := hq
  rw [h0] at hz hk
  cases q1
  obtain ⟨t2, a1, b1⟩ := kk T'.heap (locs ++ LL) (by rw [e1]; exact q2) q3 q4 q5 ⟨Nat.le_trans hS.1 (by rw [e1]; exact hz), fun q h1 h2 => by rw [e1, hk q (Nat.lt_of_lt_of_le h1 hS.1) h2]; exact hS.2.1 q h1 h2, fun q hq => by
      rcases List.mem_append.mp hq with h | h
      · exact hS.2.2 q h
      · exact hL q h⟩ T' rfl X'
  refine ⟨t2, st t2 ?_, b1⟩
  cases r with
  | none => exact a1
  | some v => exact a1
/-- a call -/
theorem z_call_g (X : z_Cx p s m args meth c D sz ex cy nL xs o cc ini n0) {q : z_C} {d i : Nat} {ν : z_D} {as rest : List z_V} {r1 : Option z_V} {L1 : z_L} {M1 : z_M} (hall : ∀ i, i < 297 → z_mki i = true) (hR : d + 2 ≤ R.frames ∧ 100 * (d + 2) ≤ R.locals) (hqi : q.2.2.1 = i) (hd : decode cc pc = .ok (q.1, q.2.1)) (hln : z_lnk q.1 q.2.1 = true) (hok : z_oki o ini q = true) (hc : z_isc q = true)
    (hν : z_ms[i]? = some ν) (har : z_args L ν st = some (as, rest)) (hM : Met l (z_infd i).2.1 (z_wsm i ν) (z_rm d (L1.length - L.length) (z_tot L1 - z_tot L)) (z_Pc xs sz ex cy D L M as) (z_Qc sz ex cy D L r1 L1 M1) (L1.length - L.length) (z_tot L1 - z_tot L) (fun q : Nat => sz ≤ q))
    (hLL : L.length ≤ L1.length ∧ z_tot L ≤ z_tot L1) (hRL : L1.length ≤ n0 + R.cells ∧ z_tot L1 ≤ t0 + R.slots) (kk : z_G p l e R s m args below meth c Q D sz ex cy n0 t0 nL (pc + q.2.1, ls, z_ol r1 ++ rest, L1, M1)) : z_G p l e R s m args below meth c Q D sz ex cy n0 t0 nL (pc, ls, st, L, M) := by
  obtain ⟨hx, hb, hml, hown, hts, hn, hK, hO, hsz, hini⟩ := X
  have hex := hO.1
  obtain ⟨j, n, a, b⟩ := q
  dsimp only at hqi hd hln kk
  subst hqi
  have hi : a < 297 := by
    have := (List.getElem?_eq_some_iff.mp hν).1
    rw [z_ms_len] at this
    exact this
  obtain ⟨k1, k2, k3, k4, k5, k6, k7, k8, k9, k10, k11, k12, k13⟩ := z_mk_sp (hall a hi) hν
  unfold z_args at har
  dsimp only at har
  split at har
  case isFalse => cases har
  rename_i hcond
  obtain ⟨htg, hcat, hrcv⟩ := hcond
  have har := Option.some.inj har
  rw [Prod.mk.injEq] at har
  obtain ⟨ha1, ha2⟩ := har
  rw [ha1] at htg hrcv
  rw [ha2] at hcat
  have hst : st = as.reverse ++ rest := by
    rw [← ha1, ← ha2, List.reverse_reverse, List.take_append_drop]
  subst hst
  have hasl : as.length = ν.2.2.1.length := by rw [← htg, List.length_map]
  intro lsA H locs cells slots hI w1 w2
  obtain ⟨i1, i2, i3, i4, i5, i6, i7⟩ := hI
  dsimp only at w1 w2
  have hS : CallFix p m c cc nL s args z_ws (z_rn o) := ⟨hx, hb, hml, hown, hts⟩
  refine z_szW hsz i1 i3 w1 (fun hH => ?_)
  have hgood : GoodIn z_ws (z_wsm a ν) := by
    intro w hw
    rcases List.mem_cons.mp hw with rfl | hw
    · exact z_ws_good _ k1
    · exact z_ws_good w hw
  have hpay := z_pay hts hgood
  have hcm : Cond.code (z_infd a).2.1 (z_infd a).2.2.1 ν.2.1 (z_infd a).2.2.2.2.1 ∈ z_wsm a ν := List.mem_cons_self
  have hPc : ∀ U : State, U.heap = H → s.WarmedH U.vm → z_Pc xs sz ex cy D L M as (as.map (z_cv sz ex)).toArray U := by
    intro U hU hW
    refine ⟨rfl, by rw [hU]; exact hH, by rw [hU]; exact i1, va_K.moved hW.alike hK, z_nst_warm hW hn, z_out.warm hW (by rw [hU]; exact hO.kept i3.2.1)⟩
  have hroom : (z_rm d (L1.length - L.length) (z_tot L1 - z_tot L)).frames + 1 ≤ R.frames ∧ 8 + (ν.2.1 + 11) + (z_rm d (L1.length - L.length) (z_tot L1 - z_tot L)).locals ≤ R.locals := by
    unfold z_rm
    dsimp only
    omega
  have hpn : ∀ k : Nat, (if ν.2.2.2.2.1 = 200 then ν.2.2.1.length else ν.2.2.1.length - 1) = k → ∀ sig, parseMethodDescriptor (z_infd a).2.1.desc = some sig → k = sig.parameters.length := by
    intro k hk sig hsig
    rw [hsig] at k5
    rw [← hk]
    exact (Option.some.inj k5).symm
  have hrest : 2 * (F0 m pc lsA ((as.reverse ++ rest).map (z_cv sz ex))).monitorRoom + ((rest.map (z_cv sz ex)).map fun v => v.category).sum ≤ 8 := by
    show 2 * 0 + _ ≤ 8
    rw [z_catsum hex]
    omega
  have hf : cells + (L1.length - L.length) ≤ R.cells ∧ slots + (z_tot L1 - z_tot L) ≤ R.slots := by omega
  have fin : ∀ (aa : Array Value), n = 3 → va_Run p l e R s m args below meth c H locs cells slots (L1.length - L.length) (z_tot L1 - z_tot L) (F0 m pc lsA ((as.reverse ++ rest).map (z_cv sz ex))) (rest.map (z_cv sz ex)) (z_Qc sz ex cy D L r1 L1 M1 aa) (fun q : Nat => sz ≤ q) → W p l e R s m args below meth c H locs cells slots Q (F0 m pc lsA ((as.reverse ++ rest).map (z_cv sz ex))) := by
    intro aa hn3 hrun
    subst hn3
    refine z_cont hrun i3 (fun H1 locs1 c1 c2 c3 c4 c5 => ?_)
    rw [← List.map_append]
    refine kk lsA H1 locs1 _ _ ⟨c1, c2, c5, c3, fun v hv => z_okv_mono (i5 v hv) hLL.1, fun v hv => ?_, i7⟩ (by dsimp only; omega) (by dsimp only; omega)
    rcases List.mem_append.mp hv with hv | hv
    · cases r1 with
      | none => cases hv
      | some w =>
        rw [List.mem_singleton.mp hv]
        exact c4 w rfl
    · exact z_okv_mono (i6 v (List.mem_append_right _ hv)) hLL.1
  have hstk : (F0 m pc lsA ((as.reverse ++ rest).map (z_cv sz ex))).stack = (as.map (z_cv sz ex)).reverse ++ rest.map (z_cv sz ex) := by
    show (as.reverse ++ rest).map (z_cv sz ex) = _
    rw [List.map_append, List.map_reverse]
  have hlsz : (F0 m pc lsA ((as.reverse ++ rest).map (z_cv sz ex))).locals.size = nL := i7.1
  -- the receiver
  have hrecv : ν.2.2.2.2.1 ≠ 200 → ∃ (v : z_V) (as' : List z_V) (ba : Nat), as = v :: as' ∧ z_cv sz ex v = .ref ba ∧ as'.length = ν.2.2.1.length - 1 ∧ ∃ cellB : Cell, H[ba]? = some cellB ∧ cellB.vm.isStatics = false ∧ s.vm.findClass (z_infd a).2.1.cls = some cellB.cls := by
    intro hne
    unfold z_rcv at hrcv
    rw [if_neg hne] at hrcv
    have hhd := (k7 hne).2
    rw [← htg] at hhd
    cases as with
    | nil => simp at hhd
    | cons v as' =>
      obtain ⟨v1, v2⟩ := v
      have hv1 : v1 = 2 := by simpa using hhd
      subst hv1
      dsimp only at hrcv
      have hl' : as'.length = ν.2.2.1.length - 1 := by
        rw [← hasl]
        simp
      by_cases h120 : ν.2.2.2.2.1 = 120
      · rw [if_pos h120] at hrcv
        have hv2 : v2 = -2 ∨ v2 = -3 := by simpa using hrcv
        have hcls : (z_infd a).2.1.cls = "java/lang/String" := by
          rcases k11 with h | ⟨-, h⟩ | ⟨h, -⟩
          · exact absurd h hne
          · exact h
          · omega
        obtain ⟨-, -, ⟨adK, adV, h3, e2, e3, -⟩, -⟩ := hO
        rw [hcls]
        rcases hv2 with rfl | rfl
        · exact ⟨_, as', adK 0, rfl, e2, hl', vk_recv h3 (by decide) i3⟩
        · exact ⟨_, as', adK 1, rfl, e3, hl', vk_recv h3 (by decide) i3⟩
      · rw [if_neg h120] at hrcv
        cases hlay : z_lay L v2 with
        | none => rw [hlay] at hrcv; cases hrcv
        | some g =>
          rw [hlay] at hrcv
          obtain ⟨g1, g2⟩ := g
          have hg1 : g1 = ν.2.2.2.2.1 + 5 := by simpa using hrcv
          subst hg1
          obtain ⟨p0, -, -⟩ := z_lay_sp hlay
          have hrc : ν.2.2.2.2.1 < 11 ∧ (z_infd a).2.1.cls = (z_cl ν.2.2.2.2.1).1 := by
            rcases k11 with h | ⟨h, -⟩ | h
            · exact absurd h hne
            · exact absurd h h120
            · exact h
          rw [hrc.2]
          exact ⟨_, as', sz + (v2 - 1).toNat, rfl, z_rf_ref p0, hl', va_recv hK i1 (z_cl_at hrc.1) (z_wd_at hlay)⟩
  cases j <;> first | (simp [z_isc] at hc; done) | skip
  case invokevirtual idx =>
    have hn1 : n = 3 := by simpa [z_lnk] using hln
    subst hn1
    have ha : a < 2000 := by omega
    unfold z_oki at hok
    simp only [Bool.and_eq_true, Bool.or_eq_true, decide_eq_true_eq] at hok
    have hok := hok.resolve_left (by omega)
    obtain ⟨⟨hm, -⟩, hps⟩ := hok
    obtain ⟨hne, hsel⟩ := k8 hps
    obtain ⟨v, as', ba, rfl, hvr, hl', hcell⟩ := hrecv hne
    have hyo : z_yof a = (z_infd a).2.1 := by
      unfold z_yof
      rw [if_neg (by omega), if_neg (by omega), if_neg (by omega), if_neg (by omega), if_neg (by omega)]
    have hn2 := hpn (as'.map (z_cv sz ex)).length (by rw [if_neg hne, List.length_map, hl'])
    have hPV : PreV s H (z_infd a).2.1.cls ba (z_Pc xs sz ex cy D L M (v :: as')) (as'.map (z_cv sz ex)) := ⟨z_Pc_blind, hcell, fun U hU hW => by
      have := hPc U hU hW
      rw [List.map_cons, hvr] at this
      exact this⟩
    have hstk2 : (F0 m pc lsA (((v :: as').reverse ++ rest).map (z_cv sz ex))).stack = (as'.map (z_cv sz ex)).reverse ++ .ref ba :: rest.map (z_cv sz ex) := by
      rw [hstk, List.map_cons, hvr]
      simp
    have hlink := z_ml_sp (o := o) (idx := idx) (a := a) (by simpa [List.any_eq_true] using hm)
    rw [hyo] at hlink
    rcases hlink with hlink | ⟨-, hlink⟩
    · exact fin _ rfl (va_runV (C := (z_infd a).2.1.cls) (bytes := (z_infd a).2.2.1) (maxL := ν.2.1) (ret := (z_infd a).2.2.2.2.1) hS hM ⟨⟨rfl, rfl, hroom.1, hroom.2, hpay, hcm, hts _ k1, hts _ k2, k3, hn2, hts _ hlink⟩, hts _ (k7 hne).1, hts _ hsel⟩ hPV rfl rfl hlsz hstk2 hrest hd hf)
    · exact fin _ rfl (va_runVN (C := (z_infd a).2.1.cls) (bytes := (z_infd a).2.2.1) (maxL := ν.2.1) (ret := (z_infd a).2.2.2.2.1) hS hM ⟨⟨⟨rfl, rfl, hroom.1, hroom.2, hpay, hcm⟩, hts _ k1, hts _ k2, k3, hn2, va_Nw.use rfl (hn _ hlink)⟩, hts _ (k7 hne).1, hts _ hsel⟩ hPV rfl rfl hlsz hstk2 hrest hd hf)
  case invokespecial idx =>
    have hn1 : n = 3 := by simpa [z_lnk] using hln
    subst hn1
    have ha : a < 2000 := by omega
    unfold z_oki at hok
    simp only [Bool.and_eq_true, Bool.or_eq_true, decide_eq_true_eq] at hok
    have hok := hok.resolve_left (by omega)
    obtain ⟨hm, hnm⟩ := hok
    have hnm := (hnm.resolve_left (by omega)).2
    obtain ⟨hret, hrc⟩ := k12 hnm
    have hne : ν.2.2.2.2.1 ≠ 200 := by omega
    obtain ⟨v, as', ba, rfl, hvr, hl', hcell⟩ := hrecv hne
    have hyo : z_yof a = (z_infd a).2.1 := by
      unfold z_yof
      rw [if_neg (by omega), if_neg (by omega), if_neg (by omega), if_neg (by omega), if_neg (by omega)]
    have hn2 := hpn (as'.map (z_cv sz ex)).length (by rw [if_neg hne, List.length_map, hl'])
    have hPS : PreS s H (z_Pc xs sz ex cy D L M (v :: as')) (.ref ba :: as'.map (z_cv sz ex)) := ⟨z_Pc_blind, fun U hU hW => by
      have := hPc U hU hW
      rw [List.map_cons, hvr] at this
      exact this⟩
    have hstk2 : (F0 m pc lsA (((v :: as').reverse ++ rest).map (z_cv sz ex))).stack = (as'.map (z_cv sz ex)).reverse ++ .ref ba :: rest.map (z_cv sz ex) := by
      rw [hstk, List.map_cons, hvr]
      simp
    have hlink := z_ml_sp (o := o) (idx := idx) (a := a) (by simpa [List.any_eq_true] using hm)
    rw [hyo] at hlink
    rw [hret] at hcm
    have k1' := k1
    rw [hret] at k1'
    rcases hlink with hlink | ⟨-, hlink⟩
    · exact fin _ rfl (va_runI (bytes := (z_infd a).2.2.1) (maxL := ν.2.1) hS hM ⟨⟨rfl, rfl, hroom.1, hroom.2, hpay, hcm, hts _ k1', hts _ k2, k3, hn2, hts _ hlink⟩, hnm, hts _ (k7 hne).1⟩ hPS rfl rfl hlsz hstk2 hrest hd hf)
    · exact fin _ rfl (va_runIN (bytes := (z_infd a).2.2.1) (maxL := ν.2.1) hS hM ⟨⟨⟨rfl, rfl, hroom.1, hroom.2, hpay, hcm⟩, hts _ k1', hts _ k2, k3, hn2, va_Nw.use rfl (hn _ hlink)⟩, hnm, hts _ (k7 hne).1⟩ hPS rfl rfl hlsz hstk2 hrest hd hf)
  case invokestatic idx =>
    have hn1 : n = 3 := by simpa [z_lnk] using hln
    subst hn1
    have ha : a < 2000 := by omega
    unfold z_oki at hok
    simp only [Bool.and_eq_true, Bool.or_eq_true, decide_eq_true_eq] at hok
    have hok := hok.resolve_left (by omega)
    obtain ⟨hm, hst⟩ := hok
    have hst := (hst.resolve_left (by omega)).2
    have he : ν.2.2.2.2.1 = 200 := by
      rw [List.getD_eq_getElem?_getD, hν] at hst
      exact hst
    have hyo : z_yof a = (z_infd a).2.1 := by
      unfold z_yof
      rw [if_neg (by omega), if_neg (by omega), if_neg (by omega), if_neg (by omega), if_neg (by omega)]
    have hn2 := hpn (as.map (z_cv sz ex)).length (by rw [if_pos he, List.length_map, hasl])
    have hPS : PreS s H (z_Pc xs sz ex cy D L M as) (as.map (z_cv sz ex)) := ⟨z_Pc_blind, hPc⟩
    have hlink := z_ml_sp (o := o) (idx := idx) (a := a) (by simpa [List.any_eq_true] using hm)
    rw [hyo] at hlink
    rcases hlink with hlink | ⟨-, hlink⟩
    · exact fin _ rfl (va_runS (bytes := (z_infd a).2.2.1) (maxL := ν.2.1) (ret := (z_infd a).2.2.2.2.1) hS hM ⟨⟨rfl, rfl, hroom.1, hroom.2, hpay, hcm, hts _ k1, hts _ k2, k3, hn2, hts _ hlink⟩, hts _ (k6 he)⟩ hPS rfl rfl hlsz hstk hrest hd hf)
    · exact fin _ rfl (va_runSN (bytes := (z_infd a).2.2.1) (maxL := ν.2.1) (ret := (z_infd a).2.2.2.2.1) hS hM ⟨⟨⟨rfl, rfl, hroom.1, hroom.2, hpay, hcm⟩, hts _ k1, hts _ k2, k3, hn2, va_Nw.use rfl (hn _ hlink)⟩, hts _ (k6 he), trivial⟩ hPS rfl rfl hlsz hstk hrest hd hf)
end
