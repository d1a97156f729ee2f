/-! WHOLE METHODS -/
theorem z_psh_L {c : z_C} {pc : Nat} {ls st : List z_V} {L : z_L} {M : z_M} {v : Option z_V} {S : z_S} (h : z_psh c pc ls st L M v = some S) : S.2.2.2.1 = L ∨ ∃ e, S.2.2.2.1 = L ++ [e] := by
  obtain ⟨_, _, rfl⟩ := z_psh_sp h
  exact Or.inl rfl
theorem z_stk_L {c : z_C} {pc : Nat} {ls : List z_V} {st : Option (List z_V)} {L : z_L} {M : z_M} {S : z_S} (h : z_stk c pc ls st L M = some S) : S.2.2.2.1 = L ∨ ∃ e, S.2.2.2.1 = L ++ [e] := by
  obtain ⟨_, _, rfl⟩ := z_stk_sp h
  exact Or.inl rfl
theorem z_mem_L {c : z_C} {pc : Nat} {ls : List z_V} {x : Option (List z_V × z_M)} {L : z_L} {S : z_S} (h : z_mem c pc ls x L = some S) : S.2.2.2.1 = L ∨ ∃ e, S.2.2.2.1 = L ++ [e] := by
  obtain ⟨_, _, rfl⟩ := z_mem_sp h
  exact Or.inl rfl
theorem z_pop_L {t : Nat} {c : z_C} {pc k : Nat} {ls st : List z_V} {L : z_L} {M : z_M} {S : z_S} (h : z_pop t c pc ls st L M k = some S) : S.2.2.2.1 = L ∨ ∃ e, S.2.2.2.1 = L ++ [e] := by
  unfold z_pop at h
  split at h
  · split at h
    · split at h
      · cases h
        exact Or.inl rfl
      · cases h
    · cases h
  · cases h
theorem z_inc_L {c : z_C} {pc k : Nat} {n : Int} {ls st : List z_V} {L : z_L} {M : z_M} {S : z_S} (h : z_inc c pc ls st L M k n = some S) : S.2.2.2.1 = L ∨ ∃ e, S.2.2.2.1 = L ++ [e] := by
  unfold z_inc at h
  split at h
  · split at h
    · cases h
      exact Or.inl rfl
    · cases h
  · cases h
theorem z_if2_L {c : z_C} {pc : Nat} {k : Jvm.ClassFile.Cond} {n : Int} {ls st : List z_V} {L : z_L} {M : z_M} {S : z_S} (h : z_if2 c pc ls st L M k n = some S) : S.2.2.2.1 = L ∨ ∃ e, S.2.2.2.1 = L ++ [e] := by
  unfold z_if2 at h
  split at h
  · split at h
    · cases h
      exact Or.inl rfl
    · cases h
  · cases h
theorem z_if1_L {c : z_C} {pc : Nat} {k : Jvm.ClassFile.Cond} {n : Int} {ls st : List z_V} {L : z_L} {M : z_M} {S : z_S} (h : z_if1 c pc ls st L M k n = some S) : S.2.2.2.1 = L ∨ ∃ e, S.2.2.2.1 = L ++ [e] := by
  unfold z_if1 at h
  split at h
  · split at h
    · cases h
      exact Or.inl rfl
    · cases h
  · cases h
theorem z_sw_L {pc : Nat} {f : Int → Int} {ls st : List z_V} {L : z_L} {M : z_M} {S : z_S} (h : z_sw pc ls st L M f = some S) : S.2.2.2.1 = L ∨ ∃ e, S.2.2.2.1 = L ++ [e] := by
  unfold z_sw at h
  split at h
  · split at h
    · cases h
      exact Or.inl rfl
    · cases h
  · cases h
theorem z_new_L {c : z_C} {pc : Nat} {g : Nat × Nat} {ls st : List z_V} {L : z_L} {M : z_M} {S : z_S} (h : z_new c pc ls st L M g = some S) : S.2.2.2.1 = L ∨ ∃ e, S.2.2.2.1 = L ++ [e] := by
  unfold z_new at h
  cases h
  exact Or.inr ⟨g, rfl⟩
theorem z_nwa_L {c : z_C} {pc : Nat} {k : Option Nat} {ls st : List z_V} {L : z_L} {M : z_M} {S : z_S} (h : z_nwa c pc ls st L M k = some S) : S.2.2.2.1 = L ∨ ∃ e, S.2.2.2.1 = L ++ [e] := by
  obtain ⟨n, r, j, -, -, -, -, rfl⟩ := z_nwa_sp h
  exact Or.inr ⟨_, rfl⟩
theorem z_go_L {pc : Nat} {ls st : List z_V} {L : z_L} {M : z_M} {S : z_S} {t : Nat} (h : some ((t, ls, st, L, M) : z_S) = some S) : S.2.2.2.1 = L ∨ ∃ e, S.2.2.2.1 = L ++ [e] := by
  cases h
  exact Or.inl rfl
theorem z_step_L {xs : List Int} {q : z_C} {pc : Nat} {ls st : List z_V} {L : z_L} {M : z_M} {S : z_S} (h : z_step xs q pc ls st L M = some S) : S.2.2.2.1 = L ∨ ∃ e, S.2.2.2.1 = L ++ [e] := by
  obtain ⟨i, n, a, b⟩ := q
  cases i <;> first
    | (simp [z_step] at h; done)
    | exact z_psh_L h
    | exact z_stk_L h
    | exact z_mem_L h
    | exact z_pop_L h
    | exact z_inc_L h
    | exact z_if2_L h
    | exact z_if1_L h
    | exact z_sw_L h
    | exact z_new_L h
    | exact z_nwa_L h
    | exact z_go_L (pc := pc) h
    | skip
  case getstatic k =>
    unfold z_step at h
    dsimp only at h
    split at h
    · exact z_psh_L h
    · split at h
      · exact z_psh_L h
      · cases h
theorem z_tot_le {L L' : z_L} (h : L' = L ∨ ∃ e, L' = L ++ [e]) : L.length ≤ L'.length ∧ z_tot L ≤ z_tot L' := by
  rcases h with rfl | ⟨e, rfl⟩
  · exact ⟨Nat.le_refl _, Nat.le_refl _⟩
  · rw [z_tot_app, List.length_append]
    exact ⟨by omega, by omega⟩
theorem z_ev_L {xs : List Int} : ∀ (n d : Nat) (μ : z_D) (pc : Nat) (ls st : List z_V) (L : z_L) (M : z_M) (r : Option z_V) (L' : z_L) (M' : z_M), z_ev xs n d μ pc ls st L M = some (r, L', M') → L.length ≤ L'.length ∧ z_tot L ≤ z_tot L' := by
  intro n
  induction n with
  | zero => intro d μ pc ls st L M r L' M' h; cases h
  | succ n ih =>
    intro d μ pc ls st L M r L' M' h
    unfold z_ev at h
    split at h
    · cases h
    · split at h
      · cases h
        exact ⟨Nat.le_refl _, Nat.le_refl _⟩
      · split at h
        · split at h
          · cases h
          · split at h
            · cases h
            · split at h
              · cases h
              · split at h
                · cases h
                · rename_i o ho
                  obtain ⟨r1, L1, M1⟩ := o
                  have h1 := ih _ _ _ _ _ _ _ _ _ _ ho
                  have h2 := ih _ _ _ _ _ _ _ _ _ _ h
                  dsimp only at h2
                  exact ⟨Nat.le_trans h1.1 h2.1, Nat.le_trans h1.2 h2.2⟩
        · split at h
          · cases h
          · rename_i S hS
            have h1 := z_tot_le (z_step_L hS)
            have h2 := ih _ _ _ _ _ _ _ _ _ _ h
            exact ⟨Nat.le_trans h1.1 h2.1, Nat.le_trans h1.2 h2.2⟩
theorem z_mk_sp {i : Nat} {μ : z_D} (h : z_mki i = true) (hμ : z_ms[i]? = some μ) :
    Cond.code (z_infd i).2.1 (z_infd i).2.2.1 μ.2.1 (z_infd i).2.2.2.2.1 ∈ z_ws ∧ Cond.initialized (z_infd i).2.1.cls ∈ z_ws ∧
    ((z_infd i).2.1.cls ≠ "java/lang/invoke/MethodHandle" ∧ (z_infd i).2.1.cls ≠ "java/lang/invoke/VarHandle") ∧ plainName (z_infd i).2.1.cls = true ∧
    ((parseMethodDescriptor (z_infd i).2.1.desc).map (fun d => d.parameters.length) = some (if μ.2.2.2.2.1 = 200 then μ.2.2.1.length else μ.2.2.1.length - 1)) ∧
    (μ.2.2.2.2.1 = 200 → Cond.static (z_infd i).2.1 ∈ z_ws) ∧ (μ.2.2.2.2.1 ≠ 200 → Cond.instanceMethod (z_infd i).2.1 ∈ z_ws ∧ μ.2.2.1.head? = some 2) ∧
    ((z_infd i).2.2.2.2.2.2.2.2 ≠ 99999 → μ.2.2.2.2.1 ≠ 200 ∧ Cond.selects (z_infd i).2.1.cls (z_infd i).2.1 (z_infd i).2.1 ∈ z_ws) ∧
    (z_rk (z_infd i).2.2.2.2.1 = μ.2.2.2.1 ∧ (z_infd i).2.1.cls = z_rn (z_infd i).1) ∧ (μ.2.2.1.length + (μ.2.2.1.filter (fun x => x == 1)).length ≤ μ.2.1 ∧ μ.2.1 ≤ 20) ∧
    (μ.2.2.2.2.1 = 200 ∨ (μ.2.2.2.2.1 = 120 ∧ (z_infd i).2.1.cls = "java/lang/String") ∨ (μ.2.2.2.2.1 < 11 ∧ (z_infd i).2.1.cls = (z_cl μ.2.2.2.2.1).1)) ∧
    ((z_infd i).2.1.name = "<init>" → (z_infd i).2.2.2.2.1 = none ∧ μ.2.2.2.2.1 < 11) ∧ z_okm (z_infd i).1 (decide ((z_infd i).2.1.name = "<init>")) (z_infd i).2.2.1 μ.1 = true := by
  unfold z_mki at h
  rw [hμ] at h
  cases hi : z_inf[i]? with
  | none => rw [hi] at h; simp at h
  | some t =>
    rw [hi] at h
    have ht : z_infd i = t := by
      unfold z_infd
      rw [List.getD_eq_getElem?_getD, hi]
      rfl
    rw [ht]
    simp only [Bool.and_eq_true, Bool.or_eq_true, decide_eq_true_eq] at h
    obtain ⟨⟨⟨⟨⟨⟨⟨⟨⟨⟨⟨⟨h1, h2⟩, h3⟩, h4⟩, h5⟩, h6⟩, h7⟩, h8⟩, h9⟩, h10⟩, h11⟩, h12⟩, h13⟩ := h
    refine ⟨by rw [← h8.1]; exact z_pw_in h1, z_pw_in h2, h3, h4, h5, fun q => ?_, fun q => ?_, fun q => ?_, ⟨h8.2.1, h8.2.2.2⟩, h9, ?_, fun q => ?_, h13⟩
    · rw [if_pos q] at h6
      exact z_pw_in h6
    · rw [if_neg q, Bool.and_eq_true, decide_eq_true_eq] at h6
      exact ⟨z_pw_in h6.1, h6.2⟩
    · rw [if_neg q] at h7
      exact ⟨h11.resolve_left q, z_pw_in h7⟩
    · rcases h10 with (h | h) | h
      · exact Or.inl h
      · exact Or.inr (Or.inl h)
      · exact Or.inr (Or.inr h)
    · exact h12.resolve_left (fun z => z q)
theorem z_okm_sp {o : Nat} {ini : Bool} {cc : ByteArray} {μ : z_D} {pc : Nat} {q : z_C} (h : z_okm o ini cc μ.1 = true) (hq : z_at μ pc = some q) : decode cc pc = .ok (q.1, q.2.1) ∧ z_lnk q.1 q.2.1 = true ∧ z_oki o ini q = true ∧ z_okj pc q = true := by
  unfold z_at at hq
  split at hq
  · rename_i c hc
    cases hq
    have hl := (List.getElem?_eq_some_iff.mp hc).1
    have h1 := List.all_eq_true.mp h pc (List.mem_range.mpr hl)
    rw [hc] at h1
    simp only [Bool.and_eq_true, decide_eq_true_eq] at h1
    exact ⟨h1.1.1.1, h1.1.1.2, h1.1.2, h1.2⟩
  · cases hq
def z_Pc (xs : List Int) (sz : Nat) (ex : Int → Value) (cy : Nat → ClassId) (D : va_G) (L : z_L) (M : z_M) (as : List z_V) : Array Value → State → Prop := fun a U =>
  a = (as.map (z_cv sz ex)).toArray ∧ U.heap.size = sz + L.length ∧ va_P D vwCl (z_wd sz ex cy L M) U.heap ∧ va_K D vwCl (z_tys cy) U ∧ (∀ w ∈ z_nst, va_Nw w U) ∧ z_out xs sz ex U U.heap
def z_Qc (sz : Nat) (ex : Int → Value) (cy : Nat → ClassId) (D : va_G) (L : z_L) (r : Option z_V) (L' : z_L) (M' : z_M) : Array Value → State → Outcome → State → Prop := fun _ st oc t =>
  oc = .returned (r.map (z_cv sz ex)) ∧ va_P D vwCl (z_wd sz ex cy L' M') t.heap ∧ z_okL L' ∧ z_okM L' M' ∧ (∀ v, r = some v → z_okv L'.length v) ∧ va_F (fun q : Nat => sz ≤ q) st t
def z_wsm (i : Nat) (μ : z_D) : List Cond := Cond.code (z_infd i).2.1 (z_infd i).2.2.1 μ.2.1 (z_infd i).2.2.2.2.1 :: z_ws
def z_rm (d mc ms : Nat) : Room := { frames := d + 1, cells := mc, slots := ms, locals := 100 * (d + 1) }
def z_met (l : Launch) (xs : List Int) (sz : Nat) (ex : Int → Value) (cy : Nat → ClassId) (D : va_G) (n : Nat) : Prop := ∀ (d i : Nat) (μ : z_D) (as : List z_V) (L : z_L) (M : z_M) (r : Option z_V) (L' : z_L) (M' : z_M), z_ms[i]? = some μ → z_okL L → z_okM L M → (∀ v ∈ as, z_okv L.length v) → as.map (fun v => v.1) = μ.2.2.1 → z_ev xs n d μ 0 (z_ent μ as) [] L M = some (r, L', M') →
  Met l (z_infd i).2.1 (z_wsm i μ) (z_rm d (L'.length - L.length) (z_tot L' - z_tot L)) (z_Pc xs sz ex cy D L M as) (z_Qc sz ex cy D L r L' M') (L'.length - L.length) (z_tot L' - z_tot L) (fun q : Nat => sz ≤ q)
theorem z_Pc_blind {xs : List Int} {sz : Nat} {ex : Int → Value} {cy : Nat → ClassId} {D : va_G} {L : z_L} {M : z_M} {as : List z_V} : FrameBlind (z_Pc xs sz ex cy D L M as) := by
  intro a U g mk h
  obtain ⟨h1, h2, h3, h4, h5, h6⟩ := h
  exact ⟨h1, h2, h3, va_K.moved (u := U) (U := U.calling g mk a) (Vm.Alike.refl U.vm) h4, fun w hw => by
    have := h5 w hw
    have hN : ∀ w ∈ z_nst, w.onTables = true := by decide
    exact va_Nw.same (hN w hw) (u := U) (U := U.calling g mk a) rfl this, z_out.same (s := U) (U := U.calling g mk a) rfl h6⟩
theorem z_nst_warm {s U : State} (hW : s.WarmedH U.vm) (h : ∀ w ∈ z_nst, va_Nw w s) : ∀ w ∈ z_nst, va_Nw w U := by
  intro w hw
  have h1 := h w hw
  unfold z_nst at hw
  simp only [List.mem_cons, List.not_mem_nil, or_false] at hw
  rcases hw with rfl | rfl | rfl | rfl | rfl <;> exact va_Nw.warmM hW h1
