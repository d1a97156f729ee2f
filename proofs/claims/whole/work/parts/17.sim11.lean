def z_wpart (l : Launch) (xs : List Int) (sz : Nat) (ex : Int → Value) (cy : Nat → ClassId) (D : va_G) (n : Nat) : Prop :=
  ∀ (p : Program) (e : Env) (R : Room) (s : State) (m : MethodId) (args : Array Value) (below : List Frame) (meth : Method) (c : Code) (Q : State → Prop) (n0 t0 nL o : Nat) (cc : ByteArray) (ini : Bool) (μ : z_D) (d pc : Nat) (ls st : List z_V) (L : z_L) (M : z_M) (r : Option z_V) (L' : z_L) (M' : z_M),
    z_Cx p s m args meth c D sz ex cy nL xs o cc ini n0 → (d + 1 ≤ R.frames ∧ 100 * (d + 1) ≤ R.locals) → z_okm o ini cc μ.1 = true → (L'.length ≤ n0 + R.cells ∧ z_tot L' ≤ t0 + R.slots) →
    (∀ (q : z_C) (pc : Nat) (lsA : Array Slot) (H : Heap) (locs : List Loc) (cells slots : Nat) (st : List z_V), decode cc pc = .ok (q.1, q.2.1) → z_lnk q.1 q.2.1 = true → z_ret μ.2.2.2.1 q st = some r → va_P D vwCl (z_wd sz ex cy L' M') H → va_S (fun q : Nat => sz ≤ q) s.heap H locs → z_okL L' → z_okM L' M' → (∀ v ∈ st, z_okv L'.length v) → cells + n0 = L'.length → slots + t0 = z_tot L' → W p l e R s m args below meth c H locs cells slots Q (F0 m pc lsA (st.map (z_cv sz ex)))) →
    z_ev xs n d μ pc ls st L M = some (r, L', M') → z_G p l e R s m args below meth c Q D sz ex cy n0 t0 nL (pc, ls, st, L, M)
theorem z_ret_sp {rk : Nat} {q : z_C} {st : List z_V} {r : Option z_V} (h : z_ret rk q st = some r) :
    (q.1 = .ireturn ∧ ∃ x, st = [(0, x)] ∧ r = some (0, x) ∧ z_rok rk x = true) ∨ (q.1 = .lreturn ∧ rk = 1 ∧ ∃ x, st = [(1, x)] ∧ r = some (1, x)) ∨ (q.1 = .areturn ∧ rk = 2 ∧ ∃ x, 0 < x ∧ st = [(2, x)] ∧ r = some (2, x)) ∨ (q.1 = .return_ ∧ rk = 3 ∧ st = [] ∧ r = none) := by
  obtain ⟨i, n, a, b⟩ := q
  unfold z_ret at h
  dsimp only at h ⊢
  split at h
  · split at h
    · rename_i v
      obtain ⟨v1, v2⟩ := v
      split at h
      · rename_i h1
        obtain ⟨h1, h2⟩ := h1
        dsimp only at h1 h2
        subst h1
        exact Or.inl ⟨rfl, v2, rfl, (Option.some.inj h).symm, h2⟩
      · cases h
    · cases h
  · split at h
    · rename_i v
      obtain ⟨v1, v2⟩ := v
      split at h
      · rename_i h1
        obtain ⟨h1, h2⟩ := h1
        dsimp only at h1
        subst h1
        exact Or.inr (Or.inl ⟨rfl, h2, v2, rfl, (Option.some.inj h).symm⟩)
      · cases h
    · cases h
  · split at h
    · rename_i v
      obtain ⟨v1, v2⟩ := v
      split at h
      · rename_i h1
        obtain ⟨h1, h2, h3⟩ := h1
        dsimp only at h1 h3
        subst h1
        exact Or.inr (Or.inr (Or.inl ⟨rfl, h2, v2, h3, rfl, (Option.some.inj h).symm⟩))
      · cases h
    · cases h
  · split at h
    · split at h
      · rename_i h1
        exact Or.inr (Or.inr (Or.inr ⟨rfl, h1, rfl, (Option.some.inj h).symm⟩))
      · cases h
    · cases h
  · cases h
theorem z_rok_nar {ret : Option FieldType} {x : Int} (h : z_rok (z_rk ret) x = true) : ∃ ty, ret = some ty ∧ narrow ty (.int (Int32.ofInt x)) = .int (Int32.ofInt x) := by
  cases ret with
  | none => cases h
  | some ty =>
    refine ⟨ty, rfl, ?_⟩
    cases ty with
    | int => rfl
    | boolean =>
      have : x = 0 ∨ x = 1 := by simpa [z_rok, z_rk] using h
      exact z_narrow_z this
    | char =>
      have : 0 ≤ x ∧ x < 65536 := by simpa [z_rok, z_rk] using h
      exact z_narrow_char this
    | byte =>
      have : -128 ≤ x ∧ x < 128 := by simpa [z_rok, z_rk] using h
      exact z_narrow_byte this
    | _ => simp [z_rok, z_rk] at h
theorem z_rk_one {ret : Option FieldType} (h : z_rk ret = 1) : ret = some .long := by
  cases ret with
  | none => cases h
  | some ty => cases ty <;> first | rfl | cases h
theorem z_rk_two {ret : Option FieldType} (h : z_rk ret = 2) : ∃ ty, ret = some ty ∧ ((∃ n, ty = .object n) ∨ ∃ t, ty = .array t) := by
  cases ret with
  | none => cases h
  | some ty => cases ty <;> first | exact ⟨_, rfl, Or.inl ⟨_, rfl⟩⟩ | exact ⟨_, rfl, Or.inr ⟨_, rfl⟩⟩ | cases h
theorem z_rk_three {ret : Option FieldType} (h : z_rk ret = 3) : ret = none := by
  cases ret with
  | none => rfl
  | some ty => cases ty <;> cases h
theorem z_tags_ok : ∀ (i : Nat) (μ : z_D), z_ms[i]? = some μ → ∀ t ∈ μ.2.2.1, t < 3 := by
  intro i μ h t ht
  have hall : z_ms.all (fun μ => μ.2.2.1.all (fun t => decide (t < 3))) = true := by decide +kernel
  have h1 := List.all_eq_true.mp hall μ (List.mem_of_getElem? h)
  have h2 := List.all_eq_true.mp h1 t ht
  simpa using h2
theorem z_hsM {p : Program} {l : Launch} {e : Env} {R : Room} {s : State} {m : MethodId} {args : Array Value} {below : List Frame} {meth : Method} {c : Code} {Q : State → Prop} {D : va_G} {sz : Nat} {ex : Int → Value} {cy : Nat → ClassId} {n0 t0 nL pc : Nat} {ls st : List z_V} {L : z_L} {M : z_M} (h : z_okL L → z_okM L M → (∀ v ∈ st, z_okv L.length v) → z_G p l e R s m args below meth c Q D sz ex cy n0 t0 nL (pc, ls, st, L, M)) : z_G p l e R s m args below meth c Q D sz ex cy n0 t0 nL (pc, ls, st, L, M) := by
  intro lsA H locs cells slots hI w1 w2
  exact h hI.2.1 hI.2.2.2.1 hI.2.2.2.2.2.1 lsA H locs cells slots hI w1 w2
theorem z_met_of {l : Launch} {xs : List Int} {sz : Nat} {ex : Int → Value} {cy : Nat → ClassId} {D : va_G} {n : Nat} (hall : ∀ i, i < 297 → z_mki i = true) (hw : z_wpart l xs sz ex cy D n) : z_met l xs sz ex cy D n := by
  intro d i μ as L M r L' M' hμ hL hM has htg hev
  have hi : i < 297 := by
    have := (List.getElem?_eq_some_iff.mp hμ).1
    rw [z_ms_len] at this
    exact this
  obtain ⟨k1, k2, k3, k4, k5, k6, k7, k8, k9, k10, k11, k12, k13⟩ := z_mk_sp (hall i hi) hμ
  have hmono := z_ev_L _ _ _ _ _ _ _ _ _ _ _ hev
  refine Met.ofW (cc := (z_infd i).2.2.1) (maxL := μ.2.1) (ret := (z_infd i).2.2.2.2.1) k4 rfl ?_
  intro p e s m args below meth c s₁ B hml hv
  obtain ⟨rfl, hsz, hP, hK, hN, hO⟩ := hv
  have hts := atoms_spec (ws := z_wsm i μ) B.pre
  have hlocks := B.notSynchronized
  have hown : s.vm.findClass (z_rn (z_infd i).1) = some m.cls := by
    rw [← k9.2]
    exact findClass_of_methodNamed B.named
  have hX : z_Cx p s m (as.map (z_cv sz ex)).toArray meth c D sz ex cy μ.2.1 xs (z_infd i).1 (z_infd i).2.2.1 (decide ((z_infd i).2.1.name = "<init>")) L.length :=
    ⟨B.exec, B.bytes, hml, hown, fun w hw => hts w (List.mem_cons_of_mem _ hw), hN, hK, hO, hsz, fun hq => by
      rw [decide_eq_true_eq] at hq
      rw [(name_of_methodNamed B.named B.method).1, hq]⟩
  have h3 : ∀ v ∈ as, v.1 < 3 := by
    intro v hv
    have h1 : v.1 ∈ μ.2.2.1 := by
      rw [← htg]
      exact List.mem_map.mpr ⟨v, hv, rfl⟩
    exact z_tags_ok i μ hμ v.1 h1
  rw [lg_entry_eq]
  refine hw p e _ s m _ below meth c _ L.length (z_tot L) μ.2.1 (z_infd i).1 (z_infd i).2.2.1 _ μ d 0 (z_ent μ as) [] L M r L' M' hX ⟨Nat.le_refl _, Nat.le_refl _⟩ k13 ?_ ?_ hev _ s.heap [] 0 0 ⟨hP, hL, va_S.rf, hM, ?_, (by intro v hv; cases hv), z_ent_lh hO.1 h3 htg k10.1⟩ (Nat.zero_add _) (Nat.zero_add _)
  · show L'.length ≤ L.length + (L'.length - L.length) ∧ z_tot L' ≤ z_tot L + (z_tot L' - z_tot L)
    omega
  · intro q pc lsA H locs cells slots st hd hln hr hP1 hS1 hL1 hM1 hst c1 c2
    obtain rfl : cells = L'.length - L.length := by omega
    obtain rfl : slots = z_tot L' - z_tot L := by omega
    have hF : ∀ t : State, t.heap = H → va_F (fun q : Nat => sz ≤ q) s t := fun t ht => hS1.F ht
    rcases z_ret_sp hr with ⟨hq, x, rfl, rfl, hrok⟩ | ⟨hq, hrk, x, rfl, rfl⟩ | ⟨hq, hrk, x, hx0, rfl, rfl⟩ | ⟨hq, hrk, rfl, rfl⟩
    · rw [hq] at hd hln
      have hn1 : q.2.1 = 1 := by simpa [z_lnk] using hln
      rw [hn1] at hd
      rw [← k9.1] at hrok
      obtain ⟨ty, hty, hnar⟩ := z_rok_nar hrok
      exact W.zret B.exec B.bytes (B.returns.trans hty) hnar (fun t ht _ => ⟨rfl, by rw [ht]; exact hP1, hL1, hM1, fun v hv => by cases hv; exact hst _ List.mem_cons_self, hF t ht⟩) hS1.2.2 hd
    · rw [hq] at hd hln
      have hn1 : q.2.1 = 1 := by simpa [z_lnk] using hln
      rw [hn1] at hd
      exact W.lret B.exec B.bytes (B.returns.trans (z_rk_one (k9.1.trans hrk))) (fun t ht _ => ⟨rfl, by rw [ht]; exact hP1, hL1, hM1, fun v hv => by cases hv; exact hst _ List.mem_cons_self, hF t ht⟩) hS1.2.2 hd
    · rw [hq] at hd hln
      have hn1 : q.2.1 = 1 := by simpa [z_lnk] using hln
      rw [hn1] at hd
      obtain ⟨ty, hty, hto⟩ := z_rk_two (k9.1.trans hrk)
      exact W.aret B.exec B.bytes (B.returns.trans hty) hto (v := z_cv sz ex (2, x)) (Or.inr ⟨_, z_rf_ref hx0⟩) (fun t ht _ => ⟨rfl, by rw [ht]; exact hP1, hL1, hM1, fun v hv => by cases hv; exact hst _ List.mem_cons_self, hF t ht⟩) hS1.2.2 hd
    · rw [hq] at hd hln
      have hn1 : q.2.1 = 1 := by simpa [z_lnk] using hln
      rw [hn1] at hd
      exact W.vret B.exec B.bytes (B.returns.trans (z_rk_three (k9.1.trans hrk))) (fun t ht _ => ⟨rfl, by rw [ht]; exact hP1, hL1, hM1, fun v hv => (by cases hv), hF t ht⟩) hS1.2.2 hd
  · intro v hv
    unfold z_ent at hv
    rcases List.mem_append.mp hv with hv | hv
    · exact z_exp_ok as has v hv
    · rw [(List.mem_replicate.mp hv).2]
      exact ⟨fun q => by simp at q, fun q => by simp at q, fun q => by simp at q⟩
theorem z_main {l : Launch} {xs : List Int} {sz : Nat} {ex : Int → Value} {cy : Nat → ClassId} {D : va_G} (hall : ∀ i, i < 297 → z_mki i = true) : ∀ n, z_wpart l xs sz ex cy D n := by
  intro n
  induction n with
  | zero =>
    intro p e R s m args below meth c Q n0 t0 nL o cc ini μ d pc ls st L M r L' M' _ _ _ _ _ h
    cases h
  | succ n ih =>
    have hmet := z_met_of hall ih
    intro p e R s m args below meth c Q n0 t0 nL o cc ini μ d pc ls st L M r L' M' hX hR hkm hRL hret h
    unfold z_ev at h
    cases hat : z_at μ pc with
    | none => rw [hat] at h; cases h
    | some q =>
      rw [hat] at h
      dsimp only at h
      obtain ⟨hd, hln, hok, hj⟩ := z_okm_sp hkm hat
      cases hrt : z_ret μ.2.2.2.1 q st with
      | some r0 =>
        rw [hrt] at h
        cases h
        intro lsA H locs cells slots hI w1 w2
        obtain ⟨i1, i2, i3, i4, i5, i6, i7⟩ := hI
        exact hret q pc lsA H locs cells slots st hd hln hrt i1 i3 i2 i4 i6 w1 w2
      | none =>
        rw [hrt] at h
        dsimp only at h
        by_cases hc : z_isc q = true
        · rw [if_pos hc] at h
          cases d with
          | zero => cases h
          | succ d =>
            dsimp only at h
            cases hν : z_ms[q.2.2.1]? with
            | none => rw [hν] at h; cases h
            | some ν =>
              rw [hν] at h
              dsimp only at h
              cases har : z_args L ν st with
              | none => rw [har] at h; cases h
              | some ar =>
                rw [har] at h
                dsimp only at h
                cases hev : z_ev xs n d ν 0 (z_ent ν ar.1) [] L M with
                | none => rw [hev] at h; cases h
                | some oo =>
                  rw [hev] at h
                  dsimp only at h
                  obtain ⟨r1, L1, M1⟩ := oo
                  obtain ⟨as, rest⟩ := ar
                  have m1 := z_ev_L _ _ _ _ _ _ _ _ _ _ _ hev
                  have m2 := z_ev_L _ _ _ _ _ _ _ _ _ _ _ h
                  dsimp only at m2
                  refine z_hsM (fun hL hM hok2 => ?_)
                  have htg : as.map (fun v => v.1) = ν.2.2.1 ∧ ∀ v ∈ as, v ∈ st := by
                    unfold z_args at har
                    dsimp only at har
                    split at har
                    · rename_i hcnd
                      have har := Option.some.inj har
                      rw [Prod.mk.injEq] at har
                      rw [← har.1]
                      exact ⟨hcnd.1, fun v hv => List.mem_of_mem_take (List.mem_reverse.mp hv)⟩
                    · cases har
                  exact z_call_g hX hall ⟨by omega, by omega⟩ rfl hd hln hok hc hν har (hmet d _ ν as L M r1 L1 M1 hν hL hM (fun v hv => hok2 v (htg.2 v hv)) htg.1 hev) m1 ⟨by omega, by omega⟩ (ih p e R s m args below meth c Q n0 t0 nL o cc ini μ (d + 1) _ ls _ L1 M1 r L' M' hX hR hkm hRL hret h)
        · rw [if_neg hc] at h
          cases hs : z_step xs q pc ls st L M with
          | none => rw [hs] at h; cases h
          | some S =>
            rw [hs] at h
            dsimp only at h
            have m2 := z_ev_L _ _ _ _ _ _ _ _ _ _ _ h
            exact z_step_g hX ⟨by omega, by omega⟩ hd hln hok hj hs ⟨by omega, by omega⟩ (ih p e R s m args below meth c Q n0 t0 nL o cc ini μ d _ _ _ _ _ r L' M' hX hR hkm hRL hret h)
