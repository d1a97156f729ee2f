/-! ONE INSTRUCTION: the great machine does what the little one does -/
theorem z_psh_sp {c : z_C} {pc : Nat} {ls st : List z_V} {L : z_L} {M : z_M} {v : Option z_V} {S : z_S} (h : z_psh c pc ls st L M v = some S) : ∃ x, v = some x ∧ S = (pc + c.2.1, ls, x :: st, L, M) := by
  cases v with
  | none => cases h
  | some x => exact ⟨x, rfl, (Option.some.inj h).symm⟩
theorem z_stk_sp {c : z_C} {pc : Nat} {ls : List z_V} {st : Option (List z_V)} {L : z_L} {M : z_M} {S : z_S} (h : z_stk c pc ls st L M = some S) : ∃ x, st = some x ∧ S = (pc + c.2.1, ls, x, L, M) := by
  cases st with
  | none => cases h
  | some x => exact ⟨x, rfl, (Option.some.inj h).symm⟩
theorem z_mem_sp {c : z_C} {pc : Nat} {ls : List z_V} {x : Option (List z_V × z_M)} {L : z_L} {S : z_S} (h : z_mem c pc ls x L = some S) : ∃ y, x = some y ∧ S = (pc + c.2.1, ls, y.1, L, y.2) := by
  cases x with
  | none => cases h
  | some y => exact ⟨y, rfl, (Option.some.inj h).symm⟩
theorem z_ld_sp {ls : List z_V} {k t : Nat} {v : z_V} (h : z_ld ls k t = some v) : ls[k]? = some v ∧ v.1 = t := by
  unfold z_ld at h
  split at h
  · split at h
    · rename_i x h1 h2
      cases h
      exact ⟨h1, h2⟩
    · cases h
  · cases h
theorem z_b2_sp {t u : Nat} {st : List z_V} {f : Int → Int → z_V} {x : List z_V} (h : z_b2 t u st f = some x) : ∃ (a b : Int) (r : List z_V), st = (t, b) :: (u, a) :: r ∧ x = f a b :: r := by
  unfold z_b2 at h
  split at h
  · rename_i y x0 r
    obtain ⟨y1, y2⟩ := y
    obtain ⟨x1, x2⟩ := x0
    split at h
    · rename_i h1
      obtain ⟨h1, h2⟩ := h1
      dsimp only at h1 h2
      subst h1; subst h2
      exact ⟨x2, y2, r, rfl, (Option.some.inj h).symm⟩
    · cases h
  · cases h
theorem z_dv_sp {st : List z_V} {f : Int → Int → z_V} {x : List z_V} (h : z_dv st f = some x) : ∃ (a b : Int) (r : List z_V), ¬ b = 0 ∧ st = (0, b) :: (0, a) :: r ∧ x = f a b :: r := by
  unfold z_dv at h
  split at h
  · rename_i y x0 r
    obtain ⟨y1, y2⟩ := y
    obtain ⟨x1, x2⟩ := x0
    split at h
    · rename_i h1
      obtain ⟨⟨h1, h2⟩, h3⟩ := h1
      dsimp only at h1 h2 h3
      subst h1; subst h2
      exact ⟨x2, y2, r, h3, rfl, (Option.some.inj h).symm⟩
    · cases h
  · cases h
theorem z_u1_sp {t : Nat} {st : List z_V} {f : Int → z_V} {x : List z_V} (h : z_u1 t st f = some x) : ∃ (a : Int) (r : List z_V), st = (t, a) :: r ∧ x = f a :: r := by
  unfold z_u1 at h
  split at h
  · rename_i y r
    obtain ⟨y1, y2⟩ := y
    split at h
    · rename_i h1
      dsimp only at h1
      subst h1
      exact ⟨y2, r, rfl, (Option.some.inj h).symm⟩
    · cases h
  · cases h
theorem z_w_oi (x : Int) : z_oi (z_w x) := by unfold z_oi z_w; omega
theorem z_wl_og (x : Int) : z_og (z_wl x) := by unfold z_og z_wl; omega
theorem z_i_oi (x : Int32) : z_oi x.toInt := ⟨by have := Int32.le_toInt x; simpa using this, by have := Int32.toInt_lt x; simpa using this⟩
theorem z_l_og (x : Int64) : z_og x.toInt := ⟨by have := Int64.le_toInt x; simpa using this, by have := Int64.toInt_lt x; simpa using this⟩
theorem z_s32 : ((Int32.size : Nat) : Int) = 4294967296 := rfl
theorem z_s64 : ((Int64.size : Nat) : Int) = 18446744073709551616 := rfl
theorem z_w_32 (x : Int) : Int32.ofInt (z_w x) = Int32.ofInt x := by
  apply Int32.toInt_inj.mp
  rw [Int32.toInt_ofInt, Int32.toInt_ofInt]
  unfold z_w
  simp only [Int.bmod_def, z_s32]
  omega
theorem z_wl_64 (x : Int) : Int64.ofInt (z_wl x) = Int64.ofInt x := by
  apply Int64.toInt_inj.mp
  rw [Int64.toInt_ofInt, Int64.toInt_ofInt]
  unfold z_wl
  simp only [Int.bmod_def, z_s64]
  omega
theorem z_ofto {x : Int} (h : z_oi x) : (Int32.ofInt x).toInt = x := by
  rw [Int32.toInt_ofInt]
  unfold z_oi at h
  simp only [Int.bmod_def, z_s32]
  omega
theorem z_oftl {x : Int} (h : z_og x) : (Int64.ofInt x).toInt = x := by
  rw [Int64.toInt_ofInt]
  unfold z_og at h
  simp only [Int.bmod_def, z_s64]
  omega
theorem z_okv_i {n : Nat} {x : Int} (h : z_oi x) : z_okv n (0, x) := ⟨fun _ => h, fun q => by simp at q, fun q => by simp at q⟩
theorem z_okv_l {n : Nat} {x : Int} (h : z_og x) : z_okv n (1, x) := ⟨fun q => by simp at q, fun _ => h, fun q => by simp at q⟩
theorem z_cv_i {sz : Nat} {ex : Int → Value} (x : Int) : z_cv sz ex (0, x) = .int (Int32.ofInt x) := rfl
theorem z_cv_l {sz : Nat} {ex : Int → Value} (x : Int) : z_cv sz ex (1, x) = .long (Int64.ofInt x) := rfl
theorem z_cv_r {sz : Nat} {ex : Int → Value} (x : Int) : z_cv sz ex (2, x) = z_rf sz ex x := rfl
theorem z_rf_ref {sz : Nat} {ex : Int → Value} {x : Int} (h : 0 < x) : z_rf sz ex x = .ref (sz + (x - 1).toNat) := by
  unfold z_rf
  rw [if_neg (by omega), if_neg (by omega)]
theorem z_cv_cat {sz : Nat} {ex : Int → Value} (hex : ∀ x, ex x = .null ∨ ∃ a, ex x = .ref a) (v : z_V) : (z_cv sz ex v).category = if v.1 = 1 then 2 else 1 := by
  obtain ⟨t, x⟩ := v
  unfold z_cv
  match t with
  | 0 => rfl
  | 1 => rfl
  | t + 2 =>
    show (z_rf sz ex x).category = if t + 2 = 1 then 2 else 1
    rw [if_neg (show ¬ (t + 2 = 1) by omega)]
    unfold z_rf
    split
    · rfl
    · split
      · rcases hex x with h | ⟨a, h⟩ <;> rw [h] <;> rfl
      · rfl
section
variable {p : Program} {l : Launch} {e : Env} {R : Room} {s : State} {m : MethodId} {args : Array Value} {below : List Frame} {meth : Method} {c : Code} {Q : State → Prop} {D : va_G} {sz : Nat} {ex : Int → Value} {cy : Nat → ClassId} {n0 t0 nL : Nat} {xs : List Int} {o : Nat} {cc : ByteArray} {ini : Bool}
variable {pc len : Nat} {ls st st' : List z_V} {L : z_L} {M : z_M}
/-- only the operands change -/
theorem z_hs (row : ∀ (lsA : Array Slot) (H : Heap) (locs : List Loc) (cells slots : Nat), z_In sz ex cy D s nL lsA H locs ls st L M → W p l e R s m args below meth c H locs cells slots Q (F0 m (pc + len) lsA (st'.map (z_cv sz ex))) → W p l e R s m args below meth c H locs cells slots Q (F0 m pc lsA (st.map (z_cv sz ex))))
    (hok : (∀ v ∈ st, z_okv L.length v) → ∀ v ∈ st', z_okv L.length v) (k : z_G p l e R s m args below meth c Q D sz ex cy n0 t0 nL (pc + len, ls, st', L, M)) : z_G p l e R s m args below meth c Q D sz ex cy n0 t0 nL (pc, ls, st, L, M) := by
  intro lsA H locs cells slots hI h1 h2
  refine row lsA H locs cells slots hI (k lsA H locs cells slots ?_ h1 h2)
  obtain ⟨i1, i2, i3, i4, i5, i6, i7⟩ := hI
  exact ⟨i1, i2, i3, i4, i5, hok i6, i7⟩
theorem z_hp {v : z_V} (hv : z_okv L.length v) (row : ∀ (lsA : Array Slot) (H : Heap) (locs : List Loc) (cells slots : Nat) (rest : List Value), z_lh sz ex lsA nL ls → W p l e R s m args below meth c H locs cells slots Q (F0 m (pc + len) lsA (z_cv sz ex v :: rest)) → W p l e R s m args below meth c H locs cells slots Q (F0 m pc lsA rest))
    (k : z_G p l e R s m args below meth c Q D sz ex cy n0 t0 nL (pc + len, ls, v :: st, L, M)) : z_G p l e R s m args below meth c Q D sz ex cy n0 t0 nL (pc, ls, st, L, M) := by
  refine z_hs (fun lsA H locs cells slots hI kk => row lsA H locs cells slots _ hI.2.2.2.2.2.2 kk) (fun h w hw => ?_) k
  rcases List.mem_cons.mp hw with rfl | hw
  · exact hv
  · exact h w hw
theorem z_h2 {t u : Nat} {a b : Int} {r : List z_V} {v : z_V} (hv : z_okv L.length (t, b) → z_okv L.length (u, a) → z_okv L.length v)
    (row : ∀ (lsA : Array Slot) (H : Heap) (locs : List Loc) (cells slots : Nat) (rest : List Value), z_okv L.length (t, b) → z_okv L.length (u, a) → W p l e R s m args below meth c H locs cells slots Q (F0 m (pc + len) lsA (z_cv sz ex v :: rest)) → W p l e R s m args below meth c H locs cells slots Q (F0 m pc lsA (z_cv sz ex (t, b) :: z_cv sz ex (u, a) :: rest)))
    (k : z_G p l e R s m args below meth c Q D sz ex cy n0 t0 nL (pc + len, ls, v :: r, L, M)) : z_G p l e R s m args below meth c Q D sz ex cy n0 t0 nL (pc, ls, (t, b) :: (u, a) :: r, L, M) := by
  refine z_hs (fun lsA H locs cells slots hI kk => row lsA H locs cells slots _ (hI.2.2.2.2.2.1 _ List.mem_cons_self) (hI.2.2.2.2.2.1 _ (List.mem_cons_of_mem _ List.mem_cons_self)) kk) (fun h w hw => ?_) k
  rcases List.mem_cons.mp hw with rfl | hw
  · exact hv (h _ List.mem_cons_self) (h _ (List.mem_cons_of_mem _ List.mem_cons_self))
  · exact h w (List.mem_cons_of_mem _ (List.mem_cons_of_mem _ hw))
theorem z_h1 {t : Nat} {a : Int} {r : List z_V} {v : z_V} (hv : z_okv L.length (t, a) → z_okv L.length v)
    (row : ∀ (lsA : Array Slot) (H : Heap) (locs : List Loc) (cells slots : Nat) (rest : List Value), z_okv L.length (t, a) → W p l e R s m args below meth c H locs cells slots Q (F0 m (pc + len) lsA (z_cv sz ex v :: rest)) → W p l e R s m args below meth c H locs cells slots Q (F0 m pc lsA (z_cv sz ex (t, a) :: rest)))
    (k : z_G p l e R s m args below meth c Q D sz ex cy n0 t0 nL (pc + len, ls, v :: r, L, M)) : z_G p l e R s m args below meth c Q D sz ex cy n0 t0 nL (pc, ls, (t, a) :: r, L, M) := by
  refine z_hs (fun lsA H locs cells slots hI kk => row lsA H locs cells slots _ (hI.2.2.2.2.2.1 _ List.mem_cons_self) kk) (fun h w hw => ?_) k
  rcases List.mem_cons.mp hw with rfl | hw
  · exact hv (h _ List.mem_cons_self)
  · exact h w (List.mem_cons_of_mem _ hw)
/-- int and int to int -/
theorem z_ii {f : Int → Int → Int} {g : Int32 → Int32 → Int32} {x : List z_V} (h : z_b2 0 0 st (fun x y => (0, f x y)) = some x) (hf : ∀ a b, z_oi a → z_oi b → z_oi (f a b) ∧ Int32.ofInt (f a b) = g (Int32.ofInt a) (Int32.ofInt b))
    (row : ∀ (lsA : Array Slot) (H : Heap) (locs : List Loc) (cells slots : Nat) (rest : List Value) (x y : Int32), W p l e R s m args below meth c H locs cells slots Q (F0 m (pc + len) lsA (.int (g x y) :: rest)) → W p l e R s m args below meth c H locs cells slots Q (F0 m pc lsA (.int y :: .int x :: rest)))
    (k : z_G p l e R s m args below meth c Q D sz ex cy n0 t0 nL (pc + len, ls, x, L, M)) : z_G p l e R s m args below meth c Q D sz ex cy n0 t0 nL (pc, ls, st, L, M) := by
  obtain ⟨a, b, r, rfl, rfl⟩ := z_b2_sp h
  refine z_h2 (fun h1 h2 => z_okv_i (hf a b (h2.1 rfl) (h1.1 rfl)).1) (fun lsA H locs cells slots rest h1 h2 kk => ?_) k
  rw [z_cv_i, (hf a b (h2.1 rfl) (h1.1 rfl)).2] at kk
  exact row lsA H locs cells slots rest _ _ kk
theorem z_lll {f : Int → Int → Int} {g : Int64 → Int64 → Int64} {x : List z_V} (h : z_b2 1 1 st (fun x y => (1, f x y)) = some x) (hf : ∀ a b, z_og a → z_og b → z_og (f a b) ∧ Int64.ofInt (f a b) = g (Int64.ofInt a) (Int64.ofInt b))
    (row : ∀ (lsA : Array Slot) (H : Heap) (locs : List Loc) (cells slots : Nat) (rest : List Value) (x y : Int64), W p l e R s m args below meth c H locs cells slots Q (F0 m (pc + len) lsA (.long (g x y) :: rest)) → W p l e R s m args below meth c H locs cells slots Q (F0 m pc lsA (.long y :: .long x :: rest)))
    (k : z_G p l e R s m args below meth c Q D sz ex cy n0 t0 nL (pc + len, ls, x, L, M)) : z_G p l e R s m args below meth c Q D sz ex cy n0 t0 nL (pc, ls, st, L, M) := by
  obtain ⟨a, b, r, rfl, rfl⟩ := z_b2_sp h
  refine z_h2 (fun h1 h2 => z_okv_l (hf a b (h2.2.1 rfl) (h1.2.1 rfl)).1) (fun lsA H locs cells slots rest h1 h2 kk => ?_) k
  rw [z_cv_l, (hf a b (h2.2.1 rfl) (h1.2.1 rfl)).2] at kk
  exact row lsA H locs cells slots rest _ _ kk
theorem z_ioi {f : Int → Int} {g : Int32 → Int32} {x : List z_V} (h : z_u1 0 st (fun x => (0, f x)) = some x) (hf : ∀ a, z_oi a → z_oi (f a) ∧ Int32.ofInt (f a) = g (Int32.ofInt a))
    (row : ∀ (lsA : Array Slot) (H : Heap) (locs : List Loc) (cells slots : Nat) (rest : List Value) (x : Int32), W p l e R s m args below meth c H locs cells slots Q (F0 m (pc + len) lsA (.int (g x) :: rest)) → W p l e R s m args below meth c H locs cells slots Q (F0 m pc lsA (.int x :: rest)))
    (k : z_G p l e R s m args below meth c Q D sz ex cy n0 t0 nL (pc + len, ls, x, L, M)) : z_G p l e R s m args below meth c Q D sz ex cy n0 t0 nL (pc, ls, st, L, M) := by
  obtain ⟨a, r, rfl, rfl⟩ := z_u1_sp h
  refine z_h1 (fun h1 => z_okv_i (hf a (h1.1 rfl)).1) (fun lsA H locs cells slots rest h1 kk => ?_) k
  rw [z_cv_i, (hf a (h1.1 rfl)).2] at kk
  exact row lsA H locs cells slots rest _ kk
/-- locals -/
theorem z_lh_at {lsA : Array Slot} (h : z_lh sz ex lsA nL ls) {k : Nat} {v : z_V} (hk : ls[k]? = some v) (ht : v.1 < 3) : lsA[k]? = some (.val (z_cv sz ex v)) := h.2.2.2 k v hk ht
/-- the list of what the locals hold -/
def z_asc (sz : Nat) (ex : Int → Value) (ls : List z_V) : List (Nat × Value) := ((List.range ls.length).filter (fun i => decide ((ls.getD i (3, 0)).1 < 3))).map (fun i => (i, z_cv sz ex (ls.getD i (3, 0))))
theorem z_asc_has {lsA : Array Slot} (h : z_lh sz ex lsA nL ls) : lv_has lsA nL (z_asc sz ex ls) := by
  obtain ⟨h1, h2, h3, h4⟩ := h
  refine ⟨h1, h3, fun q hq => ?_⟩
  obtain ⟨i, hi, rfl⟩ := List.mem_map.mp hq
  obtain ⟨hi1, hi2⟩ := List.mem_filter.mp hi
  have hl : i < ls.length := List.mem_range.mp hi1
  have e1 : ls[i]? = some (ls.getD i (3, 0)) := by
    rw [List.getD_eq_getElem?_getD, List.getElem?_eq_getElem hl]
    rfl
  exact h4 i _ e1 (by simpa using hi2)
theorem z_asc_in {i : Nat} {v : z_V} (h : ls[i]? = some v) (hv : v.1 < 3) : (i, z_cv sz ex v) ∈ z_asc sz ex ls := by
  have hl : i < ls.length := (List.getElem?_eq_some_iff.mp h).1
  have e1 : ls.getD i (3, 0) = v := by
    rw [List.getD_eq_getElem?_getD, h]
    rfl
  refine List.mem_map.mpr ⟨i, List.mem_filter.mpr ⟨List.mem_range.mpr hl, by rw [e1]; simpa using hv⟩, by rw [e1]⟩
theorem z_nl_sp {k : Nat} (h : z_nl ls (k + 1) = true) {v : z_V} (hv : ls[k]? = some v) : v.1 ≠ 1 := by
  simp only [z_nl, hv] at h
  simpa using h
/-- behind a store of one word -/
theorem z_lh_st (hex : ∀ x, ex x = .null ∨ ∃ a, ex x = .ref a) {lsA lsB : Array Slot} {k : Nat} {v : z_V} {ls' : List z_V} (h : z_lh sz ex lsA nL ls) (hs : z_st ls k v = some ls')
    (hB : lv_has lsB nL ((k, z_cv sz ex v) :: (z_asc sz ex ls).filter (fun q => !(q.1 == k) && !(q.1 + 1 == k && q.2.category == 2)))) : z_lh sz ex lsB nL ls' := by
  unfold z_st at hs
  split at hs
  · rename_i h0
    cases hs
    refine ⟨hB.1, by rw [List.length_set]; exact h.2.1, hB.2.1, fun i w hi hw => ?_⟩
    rw [List.getElem?_set] at hi
    by_cases hk : k = i
    · rw [if_pos hk, if_pos h0.1] at hi
      cases hi
      subst hk
      exact hB.2.2 _ List.mem_cons_self
    · rw [if_neg hk] at hi
      refine hB.2.2 (i, z_cv sz ex w) (List.mem_cons_of_mem _ (List.mem_filter.mpr ⟨z_asc_in hi hw, ?_⟩))
      have e1 : (i == k) = false := by simpa using fun q => hk q.symm
      rw [e1]
      show (true && !((i + 1 == k) && ((z_cv sz ex w).category == 2))) = true
      by_cases hk2 : i + 1 = k
      · subst hk2
        have := z_nl_sp h0.2 hi
        rw [z_cv_cat hex, if_neg this]
        simp
      · have e2 : (i + 1 == k) = false := by simpa using hk2
        rw [e2]
        rfl
  · cases hs
theorem z_lh_st2 (hex : ∀ x, ex x = .null ∨ ∃ a, ex x = .ref a) {lsA lsB : Array Slot} {k : Nat} {v : z_V} {ls' : List z_V} (h : z_lh sz ex lsA nL ls) (hs : z_st2 ls k v = some ls')
    (hB : lv_has lsB nL ((k, z_cv sz ex v) :: (z_asc sz ex ls).filter (fun q => !(q.1 == k) && (!(q.1 == k + 1) && !(q.1 + 1 == k && q.2.category == 2))))) : z_lh sz ex lsB nL ls' := by
  unfold z_st2 at hs
  split at hs
  · rename_i h0
    cases hs
    refine ⟨hB.1, by rw [List.length_set, List.length_set]; exact h.2.1, hB.2.1, fun i w hi hw => ?_⟩
    rw [List.getElem?_set, List.length_set, List.getElem?_set] at hi
    by_cases hk1 : k + 1 = i
    · rw [if_pos hk1, if_pos h0.1] at hi
      cases hi
      exact absurd hw (by decide)
    · rw [if_neg hk1] at hi
      by_cases hk : k = i
      · rw [if_pos hk, if_pos (by omega)] at hi
        cases hi
        subst hk
        exact hB.2.2 _ List.mem_cons_self
      · rw [if_neg hk] at hi
        refine hB.2.2 (i, z_cv sz ex w) (List.mem_cons_of_mem _ (List.mem_filter.mpr ⟨z_asc_in hi hw, ?_⟩))
        have e1 : (i == k) = false := by simpa using fun q => hk q.symm
        have e3 : (i == k + 1) = false := by simpa using fun q => hk1 q.symm
        rw [e1, e3]
        show (true && (true && !((i + 1 == k) && ((z_cv sz ex w).category == 2)))) = true
        by_cases hk2 : i + 1 = k
        · subst hk2
          have := z_nl_sp h0.2 hi
          rw [z_cv_cat hex, if_neg this]
          simp
        · have e2 : (i + 1 == k) = false := by simpa using hk2
          rw [e2]
          rfl
  · cases hs
end
