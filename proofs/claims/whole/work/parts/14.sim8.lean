theorem z_tsw_at {os : Array Int} {i : Nat} (h : i < os.size) (d : Int) : os[i]? = some (os.toList.getD i d) := by
  rw [List.getD_eq_getElem?_getD, Array.getElem?_toList, Array.getElem?_eq_getElem h]
  rfl
theorem z_lsw_off : ∀ (ps : List (Int × Int)) (d x : Int), Op.lookupswitch.offset ps d x = z_lsw d ps x
  | [], d, x => rfl
  | (a, o) :: r, d, x => by
    rw [Op.lookupswitch.offset_cons, z_lsw_off r d x]
    show _ = if x = a then o else z_lsw d r x
    by_cases h : x = a
    · rw [if_pos h, if_pos (by first | exact h | exact h.symm)]
    · rw [if_neg h, if_neg (by first | exact h | exact fun q => h q.symm)]
theorem z_lsw_in : ∀ (ps : List (Int × Int)) (d x : Int), z_lsw d ps x = d ∨ ∃ q ∈ ps, z_lsw d ps x = q.2
  | [], d, x => Or.inl rfl
  | q :: r, d, x => by
    unfold z_lsw
    by_cases h : x = q.1
    · rw [if_pos h]
      exact Or.inr ⟨q, List.mem_cons_self, rfl⟩
    · rw [if_neg h]
      rcases z_lsw_in r d x with h1 | ⟨w, hw, h1⟩
      · exact Or.inl h1
      · exact Or.inr ⟨w, List.mem_cons_of_mem _ hw, h1⟩
theorem z_nat_none {L : z_L} {M : z_M} {a : Nat} {st : List z_V} (h : a < 2000 ∨ 2004 < a) : z_nat L M a st = none := by
  unfold z_nat
  by_cases hc : 16 < z_cat st
  · rw [if_pos hc]
  · rw [if_neg hc, if_neg (show ¬ a = 2000 by omega), if_neg (show ¬ a = 2001 by omega), if_neg (show ¬ a = 2002 by omega), if_neg (show ¬ a = 2003 by omega), if_neg (show ¬ a = 2004 by omega)]
section
variable {p : Program} {l : Launch} {e : Env} {R : Room} {s : State} {m : MethodId} {args : Array Value} {below : List Frame} {meth : Method} {c : Code} {Q : State → Prop} {D : va_G} {sz : Nat} {ex : Int → Value} {cy : Nat → ClassId} {n0 t0 nL : Nat} {xs : List Int} {o : Nat} {cc : ByteArray} {ini : Bool}
variable {pc len : Nat} {ls st st' : List z_V} {L : z_L} {M M' : z_M}
theorem z_sw_g {f : Int → Int} {S : z_S} (h : z_sw pc ls st L M f = some S) (hf : ∀ x, z_oi x → 0 ≤ (pc : Int) + f x) (row : ∀ (x : Int) (tgt : Nat) (lsA : Array Slot) (H : Heap) (locs : List Loc) (cells slots : Nat) (rest : List Value), z_oi x → (pc : Int) + f x = (tgt : Int) → W p l e R s m args below meth c H locs cells slots Q (F0 m tgt lsA rest) → W p l e R s m args below meth c H locs cells slots Q (F0 m pc lsA (.int (Int32.ofInt x) :: rest))) (kk : z_G p l e R s m args below meth c Q D sz ex cy n0 t0 nL S) : z_G p l e R s m args below meth c Q D sz ex cy n0 t0 nL (pc, ls, st, L, M) := by
  unfold z_sw at h
  split at h
  · rename_i x r
    obtain ⟨x1, x2⟩ := x
    split at h
    · rename_i h1
      dsimp only at h1 h
      subst h1
      cases h
      intro lsA H locs cells slots hI w1 w2
      obtain ⟨i1, i2, i3, i4, i5, i6, i7⟩ := hI
      have hx := (i6 _ List.mem_cons_self).1 rfl
      exact row x2 _ lsA H locs cells slots _ hx (z_tg_of (hf x2 hx)) (kk lsA H locs cells slots ⟨i1, i2, i3, i4, i5, fun w hw => i6 w (List.mem_cons_of_mem _ hw), i7⟩ w1 w2)
    · cases h
  · cases h
theorem z_dup_g {q : List z_V} (hex : ∀ x, ex x = .null ∨ ∃ a, ex x = .ref a) (h : z_dup st = some q) (row : ∀ (lsA : Array Slot) (H : Heap) (locs : List Loc) (cells slots : Nat) (rest : List Value) (v : Value), v.category = 1 → W p l e R s m args below meth c H locs cells slots Q (F0 m (pc + 1) lsA (v :: v :: rest)) → W p l e R s m args below meth c H locs cells slots Q (F0 m pc lsA (v :: rest))) (kk : z_G p l e R s m args below meth c Q D sz ex cy n0 t0 nL (pc + 1, ls, q, L, M)) : z_G p l e R s m args below meth c Q D sz ex cy n0 t0 nL (pc, ls, st, L, M) := by
  unfold z_dup at h
  split at h
  · rename_i v r
    split at h
    · cases h
    · rename_i h1
      cases h
      refine z_hs (fun lsA H locs cells slots hI kw => row lsA H locs cells slots _ _ (by rw [z_cv_cat hex, if_neg h1]) kw) (fun h w hw => ?_) kk
      rcases List.mem_cons.mp hw with rfl | hw
      · exact h _ List.mem_cons_self
      · exact h w hw
  · cases h
theorem z_dup2_g {q : List z_V} (hex : ∀ x, ex x = .null ∨ ∃ a, ex x = .ref a) (h : z_dup2 st = some q) (row : ∀ (lsA : Array Slot) (H : Heap) (locs : List Loc) (cells slots : Nat) (rest : List Value) (v u : Value), v.category = 1 → u.category = 1 → W p l e R s m args below meth c H locs cells slots Q (F0 m (pc + 1) lsA (v :: u :: v :: u :: rest)) → W p l e R s m args below meth c H locs cells slots Q (F0 m pc lsA (v :: u :: rest))) (kk : z_G p l e R s m args below meth c Q D sz ex cy n0 t0 nL (pc + 1, ls, q, L, M)) : z_G p l e R s m args below meth c Q D sz ex cy n0 t0 nL (pc, ls, st, L, M) := by
  unfold z_dup2 at h
  split at h
  · rename_i v u r
    split at h
    · cases h
    · rename_i h1
      cases h
      refine z_hs (fun lsA H locs cells slots hI kw => row lsA H locs cells slots _ _ _ (by rw [z_cv_cat hex, if_neg (fun z => h1 (Or.inl z))]) (by rw [z_cv_cat hex, if_neg (fun z => h1 (Or.inr z))]) kw) (fun h w hw => ?_) kk
      rcases List.mem_cons.mp hw with rfl | hw
      · exact h _ List.mem_cons_self
      · rcases List.mem_cons.mp hw with rfl | hw
        · exact h _ (List.mem_cons_of_mem _ List.mem_cons_self)
        · exact h w hw
  · cases h
theorem z_pp_g {q : List z_V} (hex : ∀ x, ex x = .null ∨ ∃ a, ex x = .ref a) (h : z_pp st = some q) (row : ∀ (lsA : Array Slot) (H : Heap) (locs : List Loc) (cells slots : Nat) (rest : List Value) (v : Value), v.category = 1 → W p l e R s m args below meth c H locs cells slots Q (F0 m (pc + 1) lsA rest) → W p l e R s m args below meth c H locs cells slots Q (F0 m pc lsA (v :: rest))) (kk : z_G p l e R s m args below meth c Q D sz ex cy n0 t0 nL (pc + 1, ls, q, L, M)) : z_G p l e R s m args below meth c Q D sz ex cy n0 t0 nL (pc, ls, st, L, M) := by
  unfold z_pp at h
  split at h
  · rename_i v r
    split at h
    · cases h
    · rename_i h1
      cases h
      exact z_hs (fun lsA H locs cells slots hI kw => row lsA H locs cells slots _ _ (by rw [z_cv_cat hex, if_neg h1]) kw) (fun h w hw => h w (List.mem_cons_of_mem _ hw)) kk
  · cases h
theorem z_cst_sp {o idx a b : Nat} (h : ((z_cst o).any fun e => decide (e.1 = idx) && decide (e.2.1 = a) && decide (e.2.2.1 = b)) = true) : ∃ v : Int, z_ldc a b = (0, v) ∧ z_oi v ∧ Cond.constant (z_rn o) idx (Int32.ofInt v) ∈ z_ws := by
  obtain ⟨e, he, h1⟩ := List.any_eq_true.mp h
  simp only [Bool.and_eq_true, decide_eq_true_eq] at h1
  obtain ⟨⟨rfl, rfl⟩, rfl⟩ := h1
  have ho : o < 41 := Decidable.byContradiction fun q => by rw [z_cst_out q] at he; cases he
  have h2 := List.all_eq_true.mp (z_cst_all o ho) e he
  simp only [Bool.and_eq_true, decide_eq_true_eq] at h2
  obtain ⟨h3, h4⟩ := h2
  by_cases hc : e.2.2.1 = 0
  · rw [if_pos hc] at h4
    refine ⟨(e.2.1 : Int), ?_, ?_, z_pw_in h4⟩
    · unfold z_ldc
      rw [if_pos hc]
    · unfold z_oi
      omega
  · rw [if_neg hc] at h4
    simp only [Bool.and_eq_true, decide_eq_true_eq] at h4
    refine ⟨-(e.2.1 : Int), ?_, ?_, z_pw_in h4.2⟩
    · unfold z_ldc
      rw [if_neg hc, if_pos h4.1]
    · unfold z_oi
      omega
theorem z_cl2_sp {o idx a : Nat} (h : ((z_cl2 o).any fun e => decide (e.1 = idx) && decide (e.2.1 = a)) = true) : z_og (a : Int) ∧ Cond.constantLong (z_rn o) idx (Int64.ofInt (a : Int)) ∈ z_ws := by
  obtain ⟨e, he, h1⟩ := List.any_eq_true.mp h
  simp only [Bool.and_eq_true, decide_eq_true_eq] at h1
  obtain ⟨rfl, rfl⟩ := h1
  have ho : o < 41 := Decidable.byContradiction fun q => by rw [z_cl2_out q] at he; cases he
  have h2 := List.all_eq_true.mp (z_cl2_all o ho) e he
  simp only [Bool.and_eq_true, decide_eq_true_eq] at h2
  exact ⟨by unfold z_og; omega, z_pw_in h2.2⟩
theorem z_aload_row {k : Nat} {v : z_V} {lsA : Array Slot} {H : Heap} {locs : List Loc} {cells slots : Nat} {rest : List Value} (hex : ∀ x, ex x = .null ∨ ∃ a, ex x = .ref a) (hv : v.1 = 2) (h : lsA[k]? = some (.val (z_cv sz ex v))) (r1 : ∀ a : Nat, lsA[k]? = some (.val (.ref a)) → W p l e R s m args below meth c H locs cells slots Q (F0 m (pc + len) lsA (.ref a :: rest)) → W p l e R s m args below meth c H locs cells slots Q (F0 m pc lsA rest)) (r2 : lsA[k]? = some (.val .null) → W p l e R s m args below meth c H locs cells slots Q (F0 m (pc + len) lsA (.null :: rest)) → W p l e R s m args below meth c H locs cells slots Q (F0 m pc lsA rest)) (kw : W p l e R s m args below meth c H locs cells slots Q (F0 m (pc + len) lsA (z_cv sz ex v :: rest))) : W p l e R s m args below meth c H locs cells slots Q (F0 m pc lsA rest) := by
  obtain ⟨v1, v2⟩ := v
  dsimp only at hv
  subst hv
  have hr : z_cv sz ex (2, v2) = .null ∨ ∃ a, z_cv sz ex (2, v2) = .ref a := by
    rw [z_cv_r]
    unfold z_rf
    split
    · exact Or.inl rfl
    · split
      · exact hex v2
      · exact Or.inr ⟨_, rfl⟩
  rcases hr with hr | ⟨a, hr⟩
  · rw [hr] at h kw
    exact r2 h kw
  · rw [hr] at h kw
    exact r1 a h kw
set_option maxRecDepth 20000 in
set_option maxHeartbeats 4000000 in
theorem z_step_g (X : z_Cx p s m args meth c D sz ex cy nL xs o cc ini n0) {q : z_C} {S : z_S} (hR : 1 ≤ R.frames ∧ 100 ≤ R.locals) (hd : decode cc pc = .ok (q.1, q.2.1)) (hln : z_lnk q.1 q.2.1 = true) (hok : z_oki o ini q = true) (hj : z_okj pc q = true) (h : z_step xs q pc ls st L M = some S) (hRL : S.2.2.2.1.length ≤ n0 + R.cells ∧ z_tot S.2.2.2.1 ≤ t0 + R.slots) (kk : z_G p l e R s m args below meth c Q D sz ex cy n0 t0 nL S) : z_G p l e R s m args below meth c Q D sz ex cy n0 t0 nL (pc, ls, st, L, M) := by
  have hX := X
  obtain ⟨hx, hb, hml, hown, hts, hn, hK, hO, hsz, hini⟩ := X
  have hex := hO.1
  obtain ⟨i, n, a, b⟩ := q
  cases i
  case iadd =>
    have hn1 : n = 1 := by simpa [z_lnk] using hln
    subst hn1
    dsimp only at hd
    obtain ⟨y, hy, rfl⟩ := z_stk_sp (show z_stk _ pc ls (z_b2 0 0 st (fun x y => (0, z_w (x + y)))) L M = some S from h)
    exact z_ii (len := 1) hy (fun _ _ _ _ => ⟨z_w_oi _, by rw [z_w_32, Int32.ofInt_add]⟩) (fun _ _ _ _ _ _ _ _ kw => lv_iadd hx hb hd kw) kk
  case isub =>
    have hn1 : n = 1 := by simpa [z_lnk] using hln
    subst hn1
    dsimp only at hd
    obtain ⟨y, hy, rfl⟩ := z_stk_sp (show z_stk _ pc ls (z_b2 0 0 st (fun x y => (0, z_w (x - y)))) L M = some S from h)
    exact z_ii (len := 1) hy (fun _ _ _ _ => ⟨z_w_oi _, by rw [z_w_32, Int32.ofInt_sub]⟩) (fun _ _ _ _ _ _ _ _ kw => lv_isub hx hb hd kw) kk
  case imul =>
    have hn1 : n = 1 := by simpa [z_lnk] using hln
    subst hn1
    dsimp only at hd
    obtain ⟨y, hy, rfl⟩ := z_stk_sp (show z_stk _ pc ls (z_b2 0 0 st (fun x y => (0, z_w (x * y)))) L M = some S from h)
    exact z_ii (len := 1) hy (fun _ _ _ _ => ⟨z_w_oi _, by rw [z_w_32, Int32.ofInt_mul]⟩) (fun _ _ _ _ _ _ _ _ kw => lv_imul hx hb hd kw) kk
  case iand =>
    have hn1 : n = 1 := by simpa [z_lnk] using hln
    subst hn1
    dsimp only at hd
    obtain ⟨y, hy, rfl⟩ := z_stk_sp (show z_stk _ pc ls (z_b2 0 0 st (fun x y => (0, z_and x y))) L M = some S from h)
    exact z_ii (len := 1) (g := fun x y => x &&& y) hy (fun _ _ _ _ => ⟨z_i_oi _, Int32.ofInt_toInt _⟩) (fun _ _ _ _ _ _ _ _ kw => lv_iand hx hb hd kw) kk
  case ior =>
    have hn1 : n = 1 := by simpa [z_lnk] using hln
    subst hn1
    dsimp only at hd
    obtain ⟨y, hy, rfl⟩ := z_stk_sp (show z_stk _ pc ls (z_b2 0 0 st (fun x y => (0, z_or x y))) L M = some S from h)
    exact z_ii (len := 1) (g := fun x y => x ||| y) hy (fun _ _ _ _ => ⟨z_i_oi _, Int32.ofInt_toInt _⟩) (fun _ _ _ _ _ _ _ _ kw => lv_ior hx hb hd kw) kk
  case ixor =>
    have hn1 : n = 1 := by simpa [z_lnk] using hln
    subst hn1
    dsimp only at hd
    obtain ⟨y, hy, rfl⟩ := z_stk_sp (show z_stk _ pc ls (z_b2 0 0 st (fun x y => (0, z_xor x y))) L M = some S from h)
    exact z_ii (len := 1) (g := fun x y => x ^^^ y) hy (fun _ _ _ _ => ⟨z_i_oi _, Int32.ofInt_toInt _⟩) (fun _ _ _ _ _ _ _ _ kw => lv_ixor hx hb hd kw) kk
  case ishl =>
    have hn1 : n = 1 := by simpa [z_lnk] using hln
    subst hn1
    dsimp only at hd
    obtain ⟨y, hy, rfl⟩ := z_stk_sp (show z_stk _ pc ls (z_b2 0 0 st (fun x y => (0, z_shl x y))) L M = some S from h)
    exact z_ii (len := 1) (g := fun x y => x <<< (y &&& 31)) hy (fun _ _ _ _ => ⟨z_i_oi _, Int32.ofInt_toInt _⟩) (fun _ _ _ _ _ _ _ _ kw => lv_ishl hx hb hd kw) kk
  case ishr =>
    have hn1 : n = 1 := by simpa [z_lnk] using hln
    subst hn1
    dsimp only at hd
    obtain ⟨y, hy, rfl⟩ := z_stk_sp (show z_stk _ pc ls (z_b2 0 0 st (fun x y => (0, z_shr x y))) L M = some S from h)
    exact z_ii (len := 1) (g := fun x y => x >>> (y &&& 31)) hy (fun _ _ _ _ => ⟨z_i_oi _, Int32.ofInt_toInt _⟩) (fun _ _ _ _ _ _ _ _ kw => lv_ishr hx hb hd kw) kk
  case iushr =>
    have hn1 : n = 1 := by simpa [z_lnk] using hln
    subst hn1
    dsimp only at hd
    obtain ⟨y, hy, rfl⟩ := z_stk_sp (show z_stk _ pc ls (z_b2 0 0 st (fun x y => (0, z_ushr x y))) L M = some S from h)
    exact z_ii (len := 1) (g := fun x y => (x.toUInt32 >>> (y.toUInt32 &&& Int32.toUInt32 31)).toInt32) hy (fun _ _ _ _ => ⟨z_i_oi _, Int32.ofInt_toInt _⟩) (fun _ _ _ _ _ _ _ _ kw => lv_iushr hx hb hd rfl kw) kk
  case idiv =>
    have hn1 : n = 1 := by simpa [z_lnk] using hln
    subst hn1
    dsimp only at hd
    obtain ⟨y, hy, rfl⟩ := z_stk_sp (show z_stk _ pc ls (z_dv st (fun x y => (0, z_div x y))) L M = some S from h)
    obtain ⟨a, b, r, hb0, rfl, rfl⟩ := z_dv_sp hy
    refine z_h2 (len := 1) (v := (0, z_div a b)) (fun _ _ => z_okv_i (z_i_oi _)) (fun lsA H locs cells slots rest h1 _ kw => ?_) kk
    refine lv_idiv hx hb hd (z_oi_ne (h1.1 rfl) hb0) ?_
    have e1 : z_cv sz ex (0, z_div a b) = .int (let a := Int32.ofInt a; let b := Int32.ofInt b; a / b) := congrArg Value.int (Int32.ofInt_toInt _)
    rw [e1] at kw
    exact kw
  case irem =>
    have hn1 : n = 1 := by simpa [z_lnk] using hln
    subst hn1
    dsimp only at hd
    obtain ⟨y, hy, rfl⟩ := z_stk_sp (show z_stk _ pc ls (z_dv st (fun x y => (0, z_rem x y))) L M = some S from h)
    obtain ⟨a, b, r, hb0, rfl, rfl⟩ := z_dv_sp hy
    refine z_h2 (len := 1) (v := (0, z_rem a b)) (fun _ _ => z_okv_i (z_i_oi _)) (fun lsA H locs cells slots rest h1 _ kw => ?_) kk
    refine lv_irem hx hb hd (z_oi_ne (h1.1 rfl) hb0) ?_
    have e1 : z_cv sz ex (0, z_rem a b) = .int (let a := Int32.ofInt a; let b := Int32.ofInt b; a - a / b * b) := congrArg Value.int (Int32.ofInt_toInt _)
    rw [e1] at kw
    exact kw
  case ineg =>
    have hn1 : n = 1 := by simpa [z_lnk] using hln
    subst hn1
    dsimp only at hd
    obtain ⟨y, hy, rfl⟩ := z_stk_sp (show z_stk _ pc ls (z_u1 0 st (fun x => (0, z_w (-x)))) L M = some S from h)
    exact z_ioi (len := 1) (g := fun x => -x) hy (fun _ _ => ⟨z_w_oi _, by rw [z_w_32, Int32.ofInt_neg]⟩) (fun _ _ _ _ _ _ _ kw => lv_ineg hx hb hd kw) kk
  case i2b =>
    have hn1 : n = 1 := by simpa [z_lnk] using hln
    subst hn1
    dsimp only at hd
    obtain ⟨y, hy, rfl⟩ := z_stk_sp (show z_stk _ pc ls (z_u1 0 st (fun x => (0, z_i2b x))) L M = some S from h)
    exact z_ioi (len := 1) (g := fun x => x.toInt8.toInt32) hy (fun _ _ => ⟨z_i_oi _, Int32.ofInt_toInt _⟩) (fun _ _ _ _ _ _ _ kw => lv_i2b hx hb hd rfl kw) kk
  case i2c =>
    have hn1 : n = 1 := by simpa [z_lnk] using hln
    subst hn1
    dsimp only at hd
    obtain ⟨y, hy, rfl⟩ := z_stk_sp (show z_stk _ pc ls (z_u1 0 st (fun x => (0, z_i2c x))) L M = some S from h)
    exact z_ioi (len := 1) (g := fun x => (x.toUInt32 % 65536).toInt32) hy (fun _ _ => ⟨z_i_oi _, Int32.ofInt_toInt _⟩) (fun _ _ _ _ _ _ _ kw => lv_i2c hx hb hd rfl kw) kk
  case i2l =>
    have hn1 : n = 1 := by simpa [z_lnk] using hln
    subst hn1
    dsimp only at hd
    obtain ⟨y, hy, rfl⟩ := z_stk_sp (show z_stk _ pc ls (z_u1 0 st (fun x => (1, x))) L M = some S from h)
    obtain ⟨a, r, rfl, rfl⟩ := z_u1_sp hy
    refine z_h1 (len := 1) (v := (1, a)) (fun h1 => z_okv_l ?_) (fun lsA H locs cells slots rest h1 kw => lv_i2l hx hb hd (z_i64 (h1.1 rfl)) kw) kk
    have := h1.1 rfl
    unfold z_oi at this
    unfold z_og
    dsimp only at this
    omega
  case ladd =>
    have hn1 : n = 1 := by simpa [z_lnk] using hln
    subst hn1
    dsimp only at hd
    obtain ⟨y, hy, rfl⟩ := z_stk_sp (show z_stk _ pc ls (z_b2 1 1 st (fun x y => (1, z_wl (x + y)))) L M = some S from h)
    exact z_lll (len := 1) hy (fun _ _ _ _ => ⟨z_wl_og _, by rw [z_wl_64, Int64.ofInt_add]⟩) (fun _ _ _ _ _ _ _ _ kw => lv_ladd hx hb hd kw) kk
  case lsub =>
    have hn1 : n = 1 := by simpa [z_lnk] using hln
    subst hn1
    dsimp only at hd
    obtain ⟨y, hy, rfl⟩ := z_stk_sp (show z_stk _ pc ls (z_b2 1 1 st (fun x y => (1, z_wl (x - y)))) L M = some S from h)
    exact z_lll (len := 1) hy (fun _ _ _ _ => ⟨z_wl_og _, by rw [z_wl_64, Int64.ofInt_sub]⟩) (fun _ _ _ _ _ _ _ _ kw => lv_lsub hx hb hd kw) kk
  case lmul =>
    have hn1 : n = 1 := by simpa [z_lnk] using hln
    subst hn1
    dsimp only at hd
    obtain ⟨y, hy, rfl⟩ := z_stk_sp (show z_stk _ pc ls (z_b2 1 1 st (fun x y => (1, z_wl (x * y)))) L M = some S from h)
    exact z_lll (len := 1) hy (fun _ _ _ _ => ⟨z_wl_og _, by rw [z_wl_64, Int64.ofInt_mul]⟩) (fun _ _ _ _ _ _ _ _ kw => lv_lmul hx hb hd kw) kk
  case lor =>
    have hn1 : n = 1 := by simpa [z_lnk] using hln
    subst hn1
    dsimp only at hd
    obtain ⟨y, hy, rfl⟩ := z_stk_sp (show z_stk _ pc ls (z_b2 1 1 st (fun x y => (1, z_lor x y))) L M = some S from h)
    exact z_lll (len := 1) (g := fun x y => x ||| y) hy (fun _ _ _ _ => ⟨z_l_og _, Int64.ofInt_toInt _⟩) (fun _ _ _ _ _ _ _ _ kw => lv_lor hx hb hd kw) kk
  case lshl =>
    have hn1 : n = 1 := by simpa [z_lnk] using hln
    subst hn1
    dsimp only at hd
    obtain ⟨y, hy, rfl⟩ := z_stk_sp (show z_stk _ pc ls (z_b2 0 1 st (fun x y => (1, z_lshl x y))) L M = some S from h)
    obtain ⟨a, b, r, rfl, rfl⟩ := z_b2_sp hy
    refine z_h2 (len := 1) (v := (1, z_lshl a b)) (fun _ _ => z_okv_l (z_l_og _)) (fun lsA H locs cells slots rest _ _ kw => lv_lshl hx hb hd (Int64.ofInt_toInt _).symm kw) kk
  case lcmp =>
    have hn1 : n = 1 := by simpa [z_lnk] using hln
    subst hn1
    dsimp only at hd
    obtain ⟨y, hy, rfl⟩ := z_stk_sp (show z_stk _ pc ls (z_b2 1 1 st (fun x y => (0, z_lcmp x y))) L M = some S from h)
    obtain ⟨a, b, r, rfl, rfl⟩ := z_b2_sp hy
    refine z_h2 (len := 1) (fun _ _ => z_okv_i (z_lcmp_oi _ _)) (fun lsA H locs cells slots rest h1 h2 kw => ?_) kk
    refine W.lcmp hx hb hd ?_
    rw [z_lg (h2.2.1 rfl) (h1.2.1 rfl)]
    exact kw
  case iconst k =>
    have hn1 : n = 1 := by simpa [z_lnk] using hln
    subst hn1
    dsimp only at hd
    obtain ⟨y, hy, rfl⟩ := z_psh_sp (show z_psh _ pc ls st L M (some (0, k)) = some S from h)
    cases hy
    have hk : -2147483648 ≤ k ∧ k < 2147483648 := by simpa [z_oki] using hok
    exact z_hp (len := 1) (z_okv_i hk) (fun _ _ _ _ _ _ _ kw => lv_iconst hx hb hd rfl kw) kk
  case bipush k =>
    have hn1 : n = 2 := by simpa [z_lnk] using hln
    subst hn1
    dsimp only at hd
    obtain ⟨y, hy, rfl⟩ := z_psh_sp (show z_psh _ pc ls st L M (some (0, k)) = some S from h)
    cases hy
    have hk : -128 ≤ k ∧ k < 128 := by simpa [z_oki] using hok
    exact z_hp (len := 2) (v := (0, k)) (z_okv_i (by unfold z_oi; omega)) (fun _ _ _ _ _ _ _ kw => lv_bipush hx hb hd (z_b32 hk) kw) kk
  case sipush k =>
    have hn1 : n = 3 := by simpa [z_lnk] using hln
    subst hn1
    dsimp only at hd
    obtain ⟨y, hy, rfl⟩ := z_psh_sp (show z_psh _ pc ls st L M (some (0, k)) = some S from h)
    cases hy
    have hk : -32768 ≤ k ∧ k < 32768 := by simpa [z_oki] using hok
    exact z_hp (len := 3) (v := (0, k)) (z_okv_i (by unfold z_oi; omega)) (fun _ _ _ _ _ _ _ kw => lv_sipush hx hb hd (z_h32 hk) kw) kk
  case lconst k =>
    have hn1 : n = 1 := by simpa [z_lnk] using hln
    subst hn1
    dsimp only at hd
    obtain ⟨y, hy, rfl⟩ := z_psh_sp (show z_psh _ pc ls st L M (some (1, ((k : Nat) : Int))) = some S from h)
    cases hy
    exact z_hp (len := 1) (v := (1, ((k : Nat) : Int))) (z_okv_l (by unfold z_og; omega)) (fun _ _ _ _ _ _ _ kw => lv_lconst hx hb hd rfl kw) kk
  case ldc k =>
    have hn1 : n = 2 := by simpa [z_lnk] using hln
    subst hn1
    dsimp only at hd
    obtain ⟨y, hy, rfl⟩ := z_psh_sp (show z_psh _ pc ls st L M (some (z_ldc a b)) = some S from h)
    cases hy
    by_cases hb2 : b = 2
    · subst hb2
      have hk : o = 7 ∧ ((k = 39 ∧ a = 2) ∨ (k = 76 ∧ a = 3)) := by simpa [z_oki] using hok
      obtain ⟨rfl, hk⟩ := hk
      obtain ⟨-, -, ⟨adK, adV, h3, e2, e3, e4, e5, r4, r5⟩, -⟩ := hO
      rcases hk with ⟨rfl, rfl⟩ | ⟨rfl, rfl⟩
      · refine z_hp (len := 2) (v := (2, -2)) ⟨fun q => by simp at q, fun q => by simp at q, fun _ => by show (-2 : Int) ≤ _; omega⟩ (fun _ _ _ _ _ _ _ kw => ?_) kk
        have e1 : z_cv sz ex (2, -2) = .ref (adK 0) := e2
        rw [e1] at kw
        exact va_ldcS hx hb hown r4 hd kw
      · refine z_hp (len := 2) (v := (2, -3)) ⟨fun q => by simp at q, fun q => by simp at q, fun _ => by show (-3 : Int) ≤ _; omega⟩ (fun _ _ _ _ _ _ _ kw => ?_) kk
        have e1 : z_cv sz ex (2, -3) = .ref (adK 1) := e3
        rw [e1] at kw
        exact va_ldcS hx hb hown r5 hd kw
    · obtain ⟨v, hv1, hv2, hv3⟩ := z_cst_sp (o := o) (idx := k) (a := a) (b := b) (by unfold z_oki at hok; dsimp only at hok; rw [if_neg hb2] at hok; exact hok)
      rw [hv1] at kk
      exact z_hp (len := 2) (z_okv_i hv2) (fun _ _ _ _ _ _ _ kw => lv_ldc hx hb hown (hts _ hv3) hd kw) kk
  case ldc_w k =>
    have hn1 : n = 3 := by simpa [z_lnk] using hln
    subst hn1
    dsimp only at hd
    obtain ⟨y, hy, rfl⟩ := z_psh_sp (show z_psh _ pc ls st L M (some (z_ldc a b)) = some S from h)
    cases hy
    obtain ⟨v, hv1, hv2, hv3⟩ := z_cst_sp (o := o) (idx := k) (a := a) (b := b) hok
    rw [hv1] at kk
    exact z_hp (len := 3) (z_okv_i hv2) (fun _ _ _ _ _ _ _ kw => lv_ldcw hx hb hown (hts _ hv3) hd kw) kk
  case ldc2_w k =>
    have hn1 : n = 3 := by simpa [z_lnk] using hln
    subst hn1
    dsimp only at hd
    obtain ⟨y, hy, rfl⟩ := z_psh_sp (show z_psh _ pc ls st L M (some (1, (a : Int))) = some S from h)
    cases hy
    obtain ⟨hv2, hv3⟩ := z_cl2_sp (o := o) (idx := k) (a := a) hok
    exact z_hp (len := 3) (z_okv_l hv2) (fun _ _ _ _ _ _ _ kw => lv_ldc2 hx hb hown (hts _ hv3) hd kw) kk
  case iload k =>
    have hn1 : n = 2 := by simpa [z_lnk] using hln
    subst hn1
    dsimp only at hd
    obtain ⟨y, hy, rfl⟩ := z_psh_sp (show z_psh _ pc ls st L M (z_ld ls k 0) = some S from h)
    refine z_hl (len := 2) (by decide) hy (fun lsA H locs cells slots rest hv hl kw => ?_) kk
    obtain ⟨y1, y2⟩ := y
    dsimp only at hv
    subst hv
    exact lv_iload hx hb hd hl kw
  case iload_n k =>
    have hn1 : n = 1 := by simpa [z_lnk] using hln
    subst hn1
    dsimp only at hd
    obtain ⟨y, hy, rfl⟩ := z_psh_sp (show z_psh _ pc ls st L M (z_ld ls k 0) = some S from h)
    refine z_hl (len := 1) (by decide) hy (fun lsA H locs cells slots rest hv hl kw => ?_) kk
    obtain ⟨y1, y2⟩ := y
    dsimp only at hv
    subst hv
    exact lv_iload_n hx hb hd rfl hl kw
  case lload k =>
    have hn1 : n = 2 := by simpa [z_lnk] using hln
    subst hn1
    dsimp only at hd
    obtain ⟨y, hy, rfl⟩ := z_psh_sp (show z_psh _ pc ls st L M (z_ld ls k 1) = some S from h)
    refine z_hl (len := 2) (by decide) hy (fun lsA H locs cells slots rest hv hl kw => ?_) kk
    obtain ⟨y1, y2⟩ := y
    dsimp only at hv
    subst hv
    exact lv_lload hx hb hd hl kw
  case lload_n k =>
    have hn1 : n = 1 := by simpa [z_lnk] using hln
    subst hn1
    dsimp only at hd
    obtain ⟨y, hy, rfl⟩ := z_psh_sp (show z_psh _ pc ls st L M (z_ld ls k 1) = some S from h)
    refine z_hl (len := 1) (by decide) hy (fun lsA H locs cells slots rest hv hl kw => ?_) kk
    obtain ⟨y1, y2⟩ := y
    dsimp only at hv
    subst hv
    exact lv_lload_n hx hb hd rfl hl kw
  case aload k =>
    have hn1 : n = 2 := by simpa [z_lnk] using hln
    subst hn1
    dsimp only at hd
    obtain ⟨y, hy, rfl⟩ := z_psh_sp (show z_psh _ pc ls st L M (z_ld ls k 2) = some S from h)
    exact z_hl (len := 2) (by decide) hy (fun lsA H locs cells slots rest hv hl kw => z_aload_row hex hv hl (fun a ha kw => lv_aload hx hb hd ha kw) (fun ha kw => lv_aloadN hx hb hd ha kw) kw) kk
  case aload_n k =>
    have hn1 : n = 1 := by simpa [z_lnk] using hln
    subst hn1
    dsimp only at hd
    obtain ⟨y, hy, rfl⟩ := z_psh_sp (show z_psh _ pc ls st L M (z_ld ls k 2) = some S from h)
    exact z_hl (len := 1) (by decide) hy (fun lsA H locs cells slots rest hv hl kw => z_aload_row hex hv hl (fun a ha kw => lv_aload_n hx hb hd rfl ha kw) (fun ha kw => lv_aload_nN hx hb hd rfl ha kw) kw) kk
  case istore k =>
    have hn1 : n = 2 := by simpa [z_lnk] using hln
    subst hn1
    dsimp only at hd
    exact z_pop_g (len := 2) (t := 0) hx hb hex rfl (by decide) h (Or.inr ⟨rfl, hd⟩) kk
  case istore_n k =>
    have hn1 : n = 1 := by simpa [z_lnk] using hln
    subst hn1
    dsimp only at hd
    exact z_pop_g (len := 1) (t := 0) hx hb hex rfl (by decide) h (Or.inl ⟨k, rfl, rfl, hd⟩) kk
  case lstore k =>
    have hn1 : n = 2 := by simpa [z_lnk] using hln
    subst hn1
    dsimp only at hd
    exact z_pop_g (len := 2) (t := 1) hx hb hex rfl (by decide) h (Or.inr ⟨rfl, hd⟩) kk
  case lstore_n k =>
    have hn1 : n = 1 := by simpa [z_lnk] using hln
    subst hn1
    dsimp only at hd
    exact z_pop_g (len := 1) (t := 1) hx hb hex rfl (by decide) h (Or.inl ⟨k, rfl, rfl, hd⟩) kk
  case astore k =>
    have hn1 : n = 2 := by simpa [z_lnk] using hln
    subst hn1
    dsimp only at hd
    exact z_pop_g (len := 2) (t := 2) hx hb hex rfl (by decide) h (Or.inr ⟨rfl, hd⟩) kk
  case astore_n k =>
    have hn1 : n = 1 := by simpa [z_lnk] using hln
    subst hn1
    dsimp only at hd
    exact z_pop_g (len := 1) (t := 2) hx hb hex rfl (by decide) h (Or.inl ⟨k, rfl, rfl, hd⟩) kk
  case iinc k w =>
    have hn1 : n = 3 := by simpa [z_lnk] using hln
    subst hn1
    dsimp only at hd
    exact z_inc_g hx hb hex rfl h hd kk
  case dup =>
    have hn1 : n = 1 := by simpa [z_lnk] using hln
    subst hn1
    dsimp only at hd
    obtain ⟨y, hy, rfl⟩ := z_stk_sp (show z_stk _ pc ls (z_dup st) L M = some S from h)
    exact z_dup_g hex hy (fun _ _ _ _ _ _ _ hv kw => lv_dup hx hb hd hv kw) kk
  case dup2 =>
    have hn1 : n = 1 := by simpa [z_lnk] using hln
    subst hn1
    dsimp only at hd
    obtain ⟨y, hy, rfl⟩ := z_stk_sp (show z_stk _ pc ls (z_dup2 st) L M = some S from h)
    exact z_dup2_g hex hy (fun _ _ _ _ _ _ _ _ hv hu kw => lv_dup2_11 hx hb hd hv hu kw) kk
  case pop =>
    have hn1 : n = 1 := by simpa [z_lnk] using hln
    subst hn1
    dsimp only at hd
    obtain ⟨y, hy, rfl⟩ := z_stk_sp (show z_stk _ pc ls (z_pp st) L M = some S from h)
    exact z_pp_g hex hy (fun _ _ _ _ _ _ _ hv kw => lv_pop hx hb hd hv kw) kk
  case goto k =>
    have hn1 : n = 3 := by simpa [z_lnk] using hln
    subst hn1
    dsimp only at hd
    have hj : 0 ≤ (pc : Int) + k := by simpa [z_okj] using hj
    have h : some (z_tg pc k, ls, st, L, M) = some S := h
    cases h
    intro lsA H locs cells slots hI w1 w2
    exact lv_goto hx hb hd (z_tg_of hj) (kk lsA H locs cells slots hI w1 w2)
  case if_icmp k w =>
    have hn1 : n = 3 := by simpa [z_lnk] using hln
    subst hn1
    dsimp only at hd
    exact z_if2_g hx hb rfl hd (by simpa [z_okj] using hj) h kk
  case ifCond k w =>
    have hn1 : n = 3 := by simpa [z_lnk] using hln
    subst hn1
    dsimp only at hd
    exact z_if1_g hx hb rfl hd (by simpa [z_okj] using hj) h kk
  case tableswitch d lo hi os =>
    have hj : 0 ≤ (pc : Int) + d ∧ ∀ x ∈ os.toList, 0 ≤ (pc : Int) + x := by
      unfold z_okj at hj
      simp only [Bool.and_eq_true, decide_eq_true_eq, List.all_eq_true] at hj
      exact hj
    have hk : lo ≤ hi ∧ os.size = (hi - lo + 1).toNat := by simpa [z_oki] using hok
    refine z_sw_g (f := z_tsw lo hi d os) h (fun x _ => ?_) (fun x tgt lsA H locs cells slots rest hxo ht kw => ?_) kk
    · unfold z_tsw
      split
      · exact hj.1
      · rw [List.getD_eq_getElem?_getD]
        cases hg : os.toList[(x - lo).toNat]? with
        | none => exact hj.1
        | some v => exact hj.2 v (List.mem_of_getElem? hg)
    · unfold z_tsw at ht
      have ex0 := z_ofto hxo
      by_cases hc : x < lo ∨ hi < x
      · rw [if_pos hc] at ht
        exact lv_tableOut hx hb hd (by rw [ex0]; exact hc) ht kw
      · rw [if_neg hc] at ht
        exact lv_tableIn hx hb hd (off := os.toList.getD (x - lo).toNat d) (by rw [ex0]; omega) (by rw [ex0]; omega) (by rw [ex0]; exact z_tsw_at (by omega) d) ht kw
  case lookupswitch d ps =>
    have hj : 0 ≤ (pc : Int) + d ∧ ∀ x ∈ ps.toList, 0 ≤ (pc : Int) + x.2 := by
      unfold z_okj at hj
      simp only [Bool.and_eq_true, decide_eq_true_eq, List.all_eq_true] at hj
      exact hj
    unfold z_oki at hok
    rw [Bool.and_eq_true] at hok
    refine z_sw_g (f := z_lsw d ps.toList) h (fun x _ => ?_) (fun x tgt lsA H locs cells slots rest hxo ht kw => ?_) kk
    · rcases z_lsw_in ps.toList d x with h1 | ⟨w, hw, h1⟩
      · rw [h1]
        exact hj.1
      · rw [h1]
        exact hj.2 w hw
    · exact lv_lookup hx hb hd (off := z_lsw d ps.toList x) hok.1 (by rw [z_ofto hxo]; exact z_lsw_off _ _ _) ht kw
  case getfield k =>
    have hn1 : n = 3 := by simpa [z_lnk] using hln
    subst hn1
    dsimp only at hd
    obtain ⟨y, hy, rfl⟩ := z_stk_sp (show z_stk _ pc ls (z_gf L M a b st) L M = some S from h)
    exact z_gf_g hX hok hd hy kk
  case putfield k =>
    have hn1 : n = 3 := by simpa [z_lnk] using hln
    subst hn1
    dsimp only at hd
    obtain ⟨y, hy, rfl⟩ := z_mem_sp (show z_mem _ pc ls (z_pf L M a b st) L = some S from h)
    unfold z_oki at hok
    simp only [Bool.and_eq_true, Bool.or_eq_true, decide_eq_true_eq] at hok
    exact z_pf_g hX hok.1.1 hok.1.2 (by simpa [List.any_eq_true] using hok.2) hd hy kk
  case getstatic k =>
    have hn1 : n = 3 := by simpa [z_lnk] using hln
    subst hn1
    dsimp only at hd
    have hk : a = 9999 ∨ (o = 20 ∧ ((a = 1 ∧ k = 38) ∨ (a = 2 ∧ k = 1053))) := by simpa [z_oki] using hok
    rcases hk with rfl | ⟨rfl, ⟨rfl, rfl⟩ | ⟨rfl, rfl⟩⟩
    · simp [z_step] at h
    · obtain ⟨y, hy, rfl⟩ := z_psh_sp (show z_psh _ pc ls st L M (some (0, 1)) = some S from h)
      cases hy
      refine z_hs (fun lsA H locs cells slots hI kw => va_gets hx hb hO.2.2.2.1 hI.2.2.1 hown (hts _ (z_pw_in (n := 1230) (w := .fieldLink (z_rn 20) 38 "java/lang/String" "COMPACT_STRINGS" "Z") (by decide +kernel))) (fun _ h => h) hd kw) (fun h w hw => ?_) kk
      rcases List.mem_cons.mp hw with rfl | hw
      · exact z_okv_i (by unfold z_oi; omega)
      · exact h w hw
    · obtain ⟨y, hy, rfl⟩ := z_psh_sp (show z_psh _ pc ls st L M (some (2, -6)) = some S from h)
      cases hy
      refine z_hs (fun lsA H locs cells slots hI kw => va_gets hx hb hO.2.2.2.2.1 hI.2.2.1 hown (hts _ (z_pw_in (n := 2006) (w := .fieldLink (z_rn 20) 1053 "jdk/internal/util/Preconditions" "SIOOBE_FORMATTER" "Ljava/util/function/BiFunction;") (by decide +kernel))) (fun _ h => h) hd kw) (fun h w hw => ?_) kk
      rcases List.mem_cons.mp hw with rfl | hw
      · exact ⟨fun q => by simp at q, fun q => by simp at q, fun _ => by show (-6 : Int) ≤ _; omega⟩
      · exact h w hw
  case iaload =>
    have hn1 : n = 1 := by simpa [z_lnk] using hln
    subst hn1
    dsimp only at hd
    obtain ⟨y, hy, rfl⟩ := z_stk_sp (show z_stk _ pc ls (z_al xs L M 0 (fun k => k == 0) st) L M = some S from h)
    exact z_iald_g hX hd hy kk
  case laload =>
    have hn1 : n = 1 := by simpa [z_lnk] using hln
    subst hn1
    dsimp only at hd
    obtain ⟨y, hy, rfl⟩ := z_stk_sp (show z_stk _ pc ls (z_al xs L M 1 (fun k => k == 1) st) L M = some S from h)
    exact z_lald_g hX hd hy kk
  case baload =>
    have hn1 : n = 1 := by simpa [z_lnk] using hln
    subst hn1
    dsimp only at hd
    obtain ⟨y, hy, rfl⟩ := z_stk_sp (show z_stk _ pc ls (z_al xs L M 0 (fun k => k == 2 || k == 3) st) L M = some S from h)
    exact z_bald_g hX hd hy kk
  case aaload =>
    have hn1 : n = 1 := by simpa [z_lnk] using hln
    subst hn1
    dsimp only at hd
    obtain ⟨y, hy, rfl⟩ := z_stk_sp (show z_stk _ pc ls (z_al xs L M 2 (fun k => k == 4) st) L M = some S from h)
    exact z_aald_g hX hd hy kk
  case iastore =>
    have hn1 : n = 1 := by simpa [z_lnk] using hln
    subst hn1
    dsimp only at hd
    obtain ⟨y, hy, rfl⟩ := z_mem_sp (show z_mem _ pc ls _ L = some S from h)
    exact z_iast_g hX hd hy kk
  case lastore =>
    have hn1 : n = 1 := by simpa [z_lnk] using hln
    subst hn1
    dsimp only at hd
    obtain ⟨y, hy, rfl⟩ := z_mem_sp (show z_mem _ pc ls _ L = some S from h)
    exact z_last_g hX hd hy kk
  case bastore =>
    have hn1 : n = 1 := by simpa [z_lnk] using hln
    subst hn1
    dsimp only at hd
    obtain ⟨y, hy, rfl⟩ := z_mem_sp (show z_mem _ pc ls _ L = some S from h)
    exact z_bast_g hX hd hy kk
  case aastore =>
    have hn1 : n = 1 := by simpa [z_lnk] using hln
    subst hn1
    dsimp only at hd
    obtain ⟨y, hy, rfl⟩ := z_mem_sp (show z_mem _ pc ls _ L = some S from h)
    exact z_aast_g hX hd hy kk
  case arraylength =>
    have hn1 : n = 1 := by simpa [z_lnk] using hln
    subst hn1
    dsimp only at hd
    obtain ⟨y, hy, rfl⟩ := z_stk_sp (show z_stk _ pc ls (z_len xs L st) L M = some S from h)
    exact z_len_g hX hd hy kk
  case new k =>
    have hn1 : n = 3 := by simpa [z_lnk] using hln
    subst hn1
    dsimp only at hd
    have h : some (pc + 3, ls, (2, (L.length : Int) + 1) :: st, L ++ [(a + 5, z_nf a)], z_clr M ((L.length : Int) + 1)) = some S := h
    cases h
    dsimp only at hRL
    rw [z_tot_app, List.length_append, List.length_cons, List.length_nil] at hRL
    exact z_new_g hX hok hd hRL kk
  case newarray k =>
    have hn1 : n = 2 := by simpa [z_lnk] using hln
    subst hn1
    dsimp only at hd
    exact z_nwa_g hX hd rfl h hRL kk
  case anewarray k =>
    have hn1 : n = 3 := by simpa [z_lnk] using hln
    subst hn1
    dsimp only at hd
    exact z_anw_g hX hok hd rfl h hRL kk
  case invokespecial k =>
    have hn1 : n = 3 := by simpa [z_lnk] using hln
    subst hn1
    dsimp only at hd
    obtain ⟨y, hy, rfl⟩ := z_mem_sp (show z_mem _ pc ls (z_nat L M a st) L = some S from h)
    have ha : a = 2000 := by
      refine Decidable.byContradiction fun hne => ?_
      unfold z_oki at hok
      simp only [Bool.and_eq_true, Bool.or_eq_true, decide_eq_true_eq] at hok
      have : a < 2000 ∨ a = 9999 := by
        rcases hok with h | ⟨-, h | ⟨h, -⟩⟩ <;> omega
      rw [z_nat_none (by omega)] at hy
      cases hy
    subst ha
    unfold z_oki at hok
    simp only [Bool.and_eq_true, Bool.or_eq_true, decide_eq_true_eq] at hok
    rcases hok with h | ⟨h, -⟩
    · cases h
    · exact z_obj_g hX (by simpa [List.any_eq_true] using h) hR hd hy kk
  case invokestatic k =>
    have hn1 : n = 3 := by simpa [z_lnk] using hln
    subst hn1
    dsimp only at hd
    obtain ⟨y, hy, rfl⟩ := z_mem_sp (show z_mem _ pc ls (z_nat L M a st) L = some S from h)
    unfold z_oki at hok
    simp only [Bool.and_eq_true, Bool.or_eq_true, decide_eq_true_eq] at hok
    have ha : a = 9999 ∨ a < 297 → False := by
      intro ha
      rw [z_nat_none (by omega)] at hy
      cases hy
    rcases hok with h | ⟨h, h2 | ⟨h2, -⟩⟩
    · exact absurd (Or.inl h) ha
    · exact z_nat_g hX h2 (by simpa [List.any_eq_true] using h) hR hRL hd hy kk
    · exact absurd (Or.inr h2) ha
  all_goals (simp [z_step] at h; done)
end
