def z_fty (ci k : Nat) : FieldType := (parseFieldDescriptor ((z_cl ci).2.1 k).2.2.1).getD .int
def z_tk (ty : FieldType) (t b : Nat) : Bool := match ty with
  | .int => t == 0
  | .boolean => t == 0 && b == 1
  | .long => t == 1
  | .object _ => t == 2
  | .array _ => t == 2
  | _ => false
theorem z_fty_ok : ∀ ci, ci < 11 → ∀ k, k < (z_cl ci).2.2 → parseFieldDescriptor ((z_cl ci).2.1 k).2.2.1 = some (z_fty ci k) ∧ z_tk (z_fty ci k) (z_ft ci k) ((z_fbt.getD ci []).getD k 0) = true := by decide +kernel
theorem z_nm_ok : ∀ ci, ci < 11 → ∀ a, a < (z_cl ci).2.2 → ∀ b, b < (z_cl ci).2.2 → a ≠ b → ((z_cl ci).2.1 a).2.1 ≠ ((z_cl ci).2.1 b).2.1 := by decide +kernel
theorem z_cl_at {ci : Nat} (h : ci < 11) : vwCl[ci]? = some ((z_cl ci).1, (z_cl ci).2.1, (z_cl ci).2.2) := by
  have : vwCl[ci]? = some (z_cl ci) := by
    unfold z_cl
    rw [List.getD_eq_getElem?_getD, List.getElem?_eq_getElem (show ci < vwCl.length from h)]
    rfl
  exact this
theorem z_fl_sp {o idx ci k : Nat} (h : ((z_fl o).any fun e => decide (e.1 = idx) && decide (e.2.1 = ci) && decide (e.2.2.1 = k)) = true) :
    (ci = 100 ∧ ((k = 0 ∧ Cond.fieldLink (z_rn o) idx "java/lang/String" "value" "[B" ∈ z_ws) ∨ (k = 1 ∧ Cond.fieldLink (z_rn o) idx "java/lang/String" "coder" "B" ∈ z_ws))) ∨
    (ci ≠ 100 ∧ ci < 11 ∧ k < (z_cl ci).2.2 ∧ ((z_cl ci).2.1 k).1 = (z_cl ci).1 ∧ Cond.fieldLink (z_rn o) idx (z_cl ci).1 ((z_cl ci).2.1 k).2.1 ((z_cl ci).2.1 k).2.2.1 ∈ z_ws) := by
  obtain ⟨e, he, h1⟩ := List.any_eq_true.mp h
  simp only [Bool.and_eq_true, decide_eq_true_eq] at h1
  obtain ⟨⟨rfl, rfl⟩, rfl⟩ := h1
  have ho : o < 41 := Decidable.byContradiction fun q => by rw [z_fl_out q] at he; cases he
  have h2 := List.all_eq_true.mp (z_flk_all o ho) e he
  by_cases hc : e.2.1 = 100
  · left
    rw [if_pos hc] at h2
    refine ⟨hc, ?_⟩
    by_cases hk : e.2.2.1 = 0
    · rw [if_pos hk] at h2
      exact Or.inl ⟨hk, z_pw_in h2⟩
    · rw [if_neg hk] at h2
      simp only [Bool.and_eq_true, decide_eq_true_eq] at h2
      exact Or.inr ⟨h2.1, z_pw_in h2.2⟩
  · right
    rw [if_neg hc] at h2
    simp only [Bool.and_eq_true, decide_eq_true_eq] at h2
    exact ⟨hc, h2.1.1.1, h2.1.1.2, h2.1.2, z_pw_in h2.2⟩
theorem z_okM_up {L : z_L} {M : z_M} {q i x : Int} {g : Nat × Nat} (h : z_okM L M) (hl : z_lay L q = some g) (hx : z_okv L.length (z_kt g.1 i.toNat, x)) (h2 : z_kt g.1 i.toNat = 2 → 0 ≤ x) : z_okM L (z_up M q i x) := by
  intro q' g' hl' j
  unfold z_up
  by_cases hc : q' = q ∧ j = i
  · rw [if_pos hc]
    obtain ⟨rfl, rfl⟩ := hc
    rw [hl] at hl'
    cases hl'
    exact ⟨hx, h2⟩
  · rw [if_neg hc]
    exact h q' g' hl' j
theorem z_ce_obj {sz : Nat} {ex : Int → Value} {cy : Nat → ClassId} {ci n : Nat} {f : Int → Int} : z_ce sz ex cy (ci + 5, n) f = .inr (ci, (List.range (z_cl ci).2.2).map (fun (j : Nat) => z_cv sz ex (z_ft ci j, f j))) := rfl
theorem z_tnc {i : Int} (h : z_oi i) (h0 : 0 ≤ i) : (Int32.ofInt i).toNatClampNeg = i.toNat := by
  show (Int32.ofInt i).toInt.toNat = i.toNat
  rw [z_ofto h]
theorem z_vin {i : Int} {n : Nat} (h : z_oi i) (h0 : 0 ≤ i) (h1 : i < n) : vp_in (Int32.ofInt i) n := by
  rw [vp_in_iff, z_ofto h]
  exact ⟨h0, h1⟩
theorem z_catsum {sz : Nat} {ex : Int → Value} (hex : ∀ x, ex x = .null ∨ ∃ a, ex x = .ref a) (st : List z_V) : ((st.map (z_cv sz ex)).map fun v => v.category).sum = z_cat st := by
  unfold z_cat
  rw [List.map_map]
  congr 1
  refine List.map_congr_left fun v _ => ?_
  exact z_cv_cat hex v
section
variable {p : Program} {l : Launch} {e : Env} {R : Room} {s : State} {m : MethodId} {args : Array Value} {below : List Frame} {meth : Method} {c : Code} {Q : State → Prop} {D : va_G} {sz : Nat} {ex : Int → Value} {cy : Nat → ClassId} {n0 t0 nL : Nat} {xs : List Int} {o : Nat} {cc : ByteArray} {ini : Bool}
variable {pc len : Nat} {ls st st' : List z_V} {L : z_L} {M M' : z_M}
theorem z_gf_g (X : z_Cx p s m args meth c D sz ex cy nL xs o cc ini n0) {ci k idx : Nat} (hf : ((z_fl o).any fun e => decide (e.1 = idx) && decide (e.2.1 = ci) && decide (e.2.2.1 = k)) = true) (hd : decode cc pc = .ok (.getfield idx, 3)) (h : z_gf L M ci k st = some st') (kk : z_G p l e R s m args below meth c Q D sz ex cy n0 t0 nL (pc + 3, ls, st', L, M)) : z_G p l e R s m args below meth c Q D sz ex cy n0 t0 nL (pc, ls, st, L, M) := by
  obtain ⟨hx, hb, hml, hown, hts, hn, hK, hO, hsz, hini⟩ := X
  unfold z_gf at h
  split at h
  · rename_i v r
    obtain ⟨v1, v2⟩ := v
    split at h
    · rename_i h1
      dsimp only at h1 h
      subst h1
      rcases z_fl_sp hf with ⟨rfl, hk⟩ | ⟨hc, hci, hk, hrf, hw⟩
      · rw [if_pos rfl] at h
        split at h
        · rename_i hv
          cases h
          obtain ⟨h1, h2, ⟨adK, adV, h3, e2, e3, e4, e5, -⟩, -⟩ := hO
          refine z_hs (fun lsA H locs cells slots hI kw => ?_) (fun h w hw => ?_) kk
          · have hS := hI.2.2.1
            rcases hk with ⟨rfl, hw⟩ | ⟨rfl, hw⟩
            · rw [if_pos rfl] at kw
              rcases hv with rfl | rfl
              · have hE := (h3.1 0 (by decide)).2.2.1
                show W p l e R s m args below meth c H locs cells slots Q (F0 m pc lsA (z_cv sz ex (2, -2) :: r.map (z_cv sz ex)))
                have : z_cv sz ex (2, -2) = .ref (adK 0) := e2
                rw [this]
                have e6 : z_cv sz ex (2, -2 - 2) = .ref (adV 0) := e4
                refine vk_getf hx hb hE hS hown (hts _ hw) (fun _ h => h) hd ?_
                rw [← e6]
                exact kw
              · have hE := (h3.1 1 (by decide)).2.2.1
                show W p l e R s m args below meth c H locs cells slots Q (F0 m pc lsA (z_cv sz ex (2, -3) :: r.map (z_cv sz ex)))
                have : z_cv sz ex (2, -3) = .ref (adK 1) := e3
                rw [this]
                have e6 : z_cv sz ex (2, -3 - 2) = .ref (adV 1) := e5
                refine vk_getf hx hb hE hS hown (hts _ hw) (fun _ h => h) hd ?_
                rw [← e6]
                exact kw
            · rw [if_neg (by decide)] at kw
              rcases hv with rfl | rfl
              · have hE := (h3.1 0 (by decide)).2.1
                show W p l e R s m args below meth c H locs cells slots Q (F0 m pc lsA (z_cv sz ex (2, -2) :: r.map (z_cv sz ex)))
                have : z_cv sz ex (2, -2) = .ref (adK 0) := e2
                rw [this]
                exact vk_getf hx hb hE hS hown (hts _ hw) (fun _ h => h) hd kw
              · have hE := (h3.1 1 (by decide)).2.1
                show W p l e R s m args below meth c H locs cells slots Q (F0 m pc lsA (z_cv sz ex (2, -3) :: r.map (z_cv sz ex)))
                have : z_cv sz ex (2, -3) = .ref (adK 1) := e3
                rw [this]
                exact vk_getf hx hb hE hS hown (hts _ hw) (fun _ h => h) hd kw
          · rcases List.mem_cons.mp hw with rfl | hw
            · split
              · refine ⟨fun q => by simp at q, fun q => by simp at q, fun _ => ?_⟩
                show v2 - 2 ≤ _
                omega
              · exact z_okv_i z_oi0
            · exact h w (List.mem_cons_of_mem _ hw)
        · cases h
      · rw [if_neg hc] at h
        split at h
        · rename_i g hg
          split at h
          · rename_i hg1
            cases h
            obtain ⟨g1, g2⟩ := g
            dsimp only at hg1
            subst hg1
            obtain ⟨q0, q1, q2⟩ := z_lay_sp hg
            intro lsA H locs cells slots hI w1 w2
            obtain ⟨i1, i2, i3, i4, i5, i6, i7⟩ := hI
            have hval := i4 _ _ hg (k : Int)
            have hkt : z_kt (ci + 5) (k : Int).toNat = z_ft ci k := by simp [z_kt]
            rw [show ((ci + 5, g2) : Nat × Nat).1 = ci + 5 from rfl, hkt] at hval
            show W p l e R s m args below meth c H locs cells slots Q (F0 m pc lsA (z_rf sz ex v2 :: r.map (z_cv sz ex)))
            rw [z_rf_ref q0]
            refine va_get (D := D) (ci := ci) (v := z_cv sz ex (z_ft ci k, M v2 k)) (C := (z_cl ci).1) (T := (z_cl ci).2.1) (N := (z_cl ci).2.2) hx hb hts (z_up_in hci) hown hK i1 _ (z_wd_at hg) (z_cl_at hci) k hk (hts _ hw) (fun x hx2 => by rw [hrf] at hx2; exact hx2) (by simp [hk]) hd ?_
            refine kk lsA H locs cells slots ⟨i1, i2, i3, i4, i5, fun w hw => ?_, i7⟩ w1 w2
            rcases List.mem_cons.mp hw with rfl | hw
            · exact hval.1
            · exact i6 w (List.mem_cons_of_mem _ hw)
          · cases h
        · cases h
    · cases h
  · cases h
/-- what is left to show behind a store: the row gives the new world -/
theorem z_hm (hM : z_okM L M → z_okM L M') (hst : ∀ w ∈ st', w ∈ st) (row : ∀ (lsA : Array Slot) (H : Heap) (locs : List Loc) (cells slots : Nat), z_In sz ex cy D s nL lsA H locs ls st L M → (∀ (H1 : Heap) (locs1 : List Loc), va_P D vwCl (z_wd sz ex cy L M') H1 → va_S (fun q : Nat => sz ≤ q) s.heap H1 locs1 → W p l e R s m args below meth c H1 locs1 cells slots Q (F0 m (pc + len) lsA (st'.map (z_cv sz ex)))) → W p l e R s m args below meth c H locs cells slots Q (F0 m pc lsA (st.map (z_cv sz ex))))
    (k : z_G p l e R s m args below meth c Q D sz ex cy n0 t0 nL (pc + len, ls, st', L, M')) : z_G p l e R s m args below meth c Q D sz ex cy n0 t0 nL (pc, ls, st, L, M) := by
  intro lsA H locs cells slots hI h1 h2
  refine row lsA H locs cells slots hI (fun H1 locs1 a1 a2 => k lsA H1 locs1 cells slots ?_ h1 h2)
  obtain ⟨i1, i2, i3, i4, i5, i6, i7⟩ := hI
  exact ⟨a1, i2, a2, hM i4, i5, fun w hw => i6 w (hst w hw), i7⟩
end
