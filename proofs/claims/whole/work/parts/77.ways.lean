/-! all ways to pair -/
section
variable {n : Nat} {C : Int → Int → Prop}
/-- a way that may be -/
def z_val (n : Nat) (C : Int → Int → Prop) (W : Int → Int) : Prop := ∀ f : Int, 0 ≤ f → f < n → W f < 0 ∨ (W (W f) = f ∧ C f (W f))
noncomputable def z_vlb (n : Nat) (C : Int → Int → Prop) (W : Int → Int) : Bool := @decide (z_val n C W) (Classical.propDecidable _)
/-- all rows, from the k-th of the last flocks on -/
def z_rws (n : Nat) : Nat → (Int → Int) → List (Int → Int)
  | 0, W => [W]
  | k + 1, W => (List.range (n + 1)).flatMap (fun (d : Nat) => z_rws n k (z_pt W ((n : Int) - k - 1) ((d : Int) - 1)))
/-- the class's order -/
noncomputable def z_pfr (n : Nat) (C : Int → Int → Prop) : Nat → (Int → Int) → List (Int → Int)
  | 0, W => [W]
  | k + 1, W => z_pfr n C k W ++ (if W ((n : Int) - k - 1) ≠ -1 then [] else (List.range n).flatMap (fun (o : Nat) => @ite _ ((n : Int) - k - 1 < o ∧ W o = -1 ∧ C ((n : Int) - k - 1) o) (Classical.propDecidable _) (z_pfr n C k (z_pt (z_pt W ((n : Int) - k - 1) o) o ((n : Int) - k - 1))) []))
/-- some of the first ones are paired -/
def z_prt (n : Nat) (C : Int → Int → Prop) (f : Int) (W : Int → Int) : Prop := (∀ i : Int, ¬ (0 ≤ i ∧ i < n) → W i = -1) ∧ ∀ i : Int, 0 ≤ i → i < n → W i = -1 ∨ ((0 ≤ W i ∧ W i < n) ∧ W (W i) = i ∧ C i (W i) ∧ (i < f ∨ W i < f))
theorem z_rws_m : ∀ (k : Nat) (V R : Int → Int), R ∈ z_rws n k V → ∀ i : Int, ¬ ((n : Int) - k ≤ i ∧ i < n) → R i = V i
  | 0, V, R, h, i, hi => by
    unfold z_rws at h
    rw [List.mem_singleton] at h
    rw [h]
  | k + 1, V, R, h, i, hi => by
    unfold z_rws at h
    rw [List.mem_flatMap] at h
    obtain ⟨d, _, h⟩ := h
    rw [z_rws_m k _ R h i (by omega), z_pt_n (by omega)]
theorem z_rws_c : ∀ (k : Nat) (V V' : Int → Int), (∀ i : Int, ¬ ((n : Int) - k ≤ i ∧ i < n) → V i = V' i) → z_rws n k V = z_rws n k V'
  | 0, V, V', h => by
    rw [show V = V' from funext fun i => h i (by omega)]
  | k + 1, V, V', h => by
    unfold z_rws
    congr 1
    funext d
    refine z_rws_c k _ _ (fun i hi => ?_)
    by_cases e : i = (n : Int) - k - 1
    · rw [e, z_pt_s, z_pt_s]
    · rw [z_pt_n e, z_pt_n e, h i (by omega)]
theorem z_fm_one {α : Type} {X : List α} {F : Nat → List α} : ∀ (b d0 : Nat), d0 < b → F d0 = X → (∀ d, d < b → d ≠ d0 → F d = []) → (List.range b).flatMap F = X
  | 0, _, h, _, _ => absurd h (by omega)
  | b + 1, d0, h, h1, h2 => by
    rw [List.range_succ, List.flatMap_append, List.flatMap_cons, List.flatMap_nil, List.append_nil]
    by_cases e : d0 = b
    · have : (List.range b).flatMap F = [] := by
        rw [List.flatMap_eq_nil_iff]
        intro d hd
        have := List.mem_range.mp hd
        exact h2 d (by omega) (by omega)
      rw [this, ← e, h1, List.nil_append]
    · rw [h2 b (by omega) (fun q => e q.symm), List.append_nil]
      exact z_fm_one b d0 (by omega) h1 (fun d hd => h2 d (by omega))
theorem z_vf_nil {L : List (Int → Int)} (h : ∀ R, R ∈ L → ¬ z_val n C R) : L.filter (z_vlb n C) = [] := by
  rw [List.filter_eq_nil_iff]
  intro R hR q
  exact h R hR (of_decide_eq_true (inst := Classical.propDecidable _) q)
theorem z_pt_id {W : Int → Int} {i x : Int} (h : W i = x) : z_pt W i x = W := by
  funext j
  by_cases e : j = i
  · rw [e, z_pt_s, h]
  · rw [z_pt_n e]
/-- the class's order is that of the rows -/
theorem z_pf_rws (hs : ∀ a b, C a b → C b a) (hi : ∀ a, ¬ C a a) : ∀ (k : Nat) (W : Int → Int), k ≤ n → z_prt n C ((n : Int) - k) W → z_pfr n C k W = (z_rws n k W).filter (z_vlb n C)
  | 0, W, _, hW => by
    have : z_vlb n C W = true := by
      unfold z_vlb
      refine @decide_eq_true _ (Classical.propDecidable _) (fun f h1 h2 => ?_)
      rcases hW.2 f h1 h2 with h | ⟨_, h, h', _⟩
      · exact Or.inl (by omega)
      · exact Or.inr ⟨h, h'⟩
    rw [z_pfr, z_rws, List.filter_cons, if_pos this]
    rfl
  | k + 1, W, hk, hW => by
    obtain ⟨w1, w2⟩ := hW
    rw [z_pfr, z_rws, List.filter_flatMap]
    generalize hf : (n : Int) - k - 1 = f
    rw [show (n : Int) - ((k + 1 : Nat) : Int) = f by omega] at w2
    have hW' : z_prt n C ((n : Int) - k) W := ⟨w1, fun i h1 h2 => (w2 i h1 h2).imp id (fun ⟨a, b, c, e⟩ => ⟨a, b, c, by omega⟩)⟩
    have ih := z_pf_rws hs hi k W (by omega) hW'
    have mem : ∀ (x : Int) (R : Int → Int), R ∈ z_rws n k (z_pt W f x) → R f = x ∧ ∀ i : Int, 0 ≤ i → i < f → R i = W i := fun x R hR => by
      have := z_rws_m k _ R hR
      refine ⟨by rw [this f (by omega), z_pt_s], fun i h1 h2 => by rw [this i (by omega), z_pt_n (by omega)]⟩
    rcases w2 f (by omega) (by omega) with e | ⟨r, e1, e2, e3⟩
    · rw [if_neg (by omega), List.range_succ_eq_map, List.flatMap_cons, List.flatMap_map]
      congr 1
      · rw [show ((0 : Nat) : Int) - 1 = -1 from rfl, z_pt_id e]
        exact ih
      · have key : ∀ o : Nat, o < n → (@ite _ (f < o ∧ W o = -1 ∧ C f o) (Classical.propDecidable _) (z_pfr n C k (z_pt (z_pt W f o) o f)) []) = (z_rws n k (z_pt W f ((Nat.succ o : Nat) - 1 : Int))).filter (z_vlb n C) := fun o ho => by
          rw [show ((Nat.succ o : Nat) : Int) - 1 = (o : Int) by omega]
          by_cases c : f < o ∧ W o = -1 ∧ C f o
          · rw [if_pos c]
            have hp : z_prt n C ((n : Int) - k) (z_pt (z_pt W f o) o f) := by
              refine ⟨fun i hi => ?_, fun i h1 h2 => ?_⟩
              · rw [z_pt_n (by omega), z_pt_n (by omega), w1 i hi]
              · by_cases c1 : i = o
                · rw [c1, z_pt_s, z_pt_n (by omega), z_pt_s]
                  exact Or.inr ⟨by omega, rfl, hs _ _ c.2.2, by omega⟩
                · rw [z_pt_n c1]
                  by_cases c2 : i = f
                  · rw [c2, z_pt_s, z_pt_s]
                    exact Or.inr ⟨by omega, rfl, c.2.2, by omega⟩
                  · rw [z_pt_n c2]
                    rcases w2 i h1 h2 with q | ⟨q1, q2, q3, q4⟩
                    · exact Or.inl q
                    · refine Or.inr ⟨q1, ?_, q3, by omega⟩
                      rw [z_pt_n (fun z => by rw [z, c.2.1] at q2; omega), z_pt_n (fun z => by rw [z, e] at q2; omega)]
                      exact q2
            rw [z_pf_rws hs hi k _ (by omega) hp]
            rw [z_rws_c k (z_pt (z_pt W f o) o f) (z_pt W f o) (fun i hi => z_pt_n (by omega))]
          · rw [if_neg c]
            refine (z_vf_nil (fun R hR q => ?_)).symm
            obtain ⟨m1, m2⟩ := mem _ R hR
            have v := q f (by omega) (by omega)
            rw [m1] at v
            obtain ⟨v1, v2⟩ := v.resolve_left (by omega)
            by_cases c1 : f < o
            · by_cases c2 : W o = -1
              · exact c ⟨c1, c2, v2⟩
              · obtain ⟨q1, q2, q3, q4⟩ := (w2 o (by omega) (by omega)).resolve_left c2
                have q5 : W o < f := by omega
                have r1 := m2 (W o) q1.1 q5
                have v3 := q (W o) q1.1 q1.2
                rw [r1, q2] at v3
                obtain ⟨v4, _⟩ := v3.resolve_left (by omega)
                omega
            · by_cases c2 : (o : Int) = f
              · rw [c2] at v2
                exact hi f v2
              · have r1 := m2 o (by omega) (by omega)
                rw [r1] at v1
                rcases w2 o (by omega) (by omega) with q1 | ⟨q1, q2, q3, q4⟩
                · omega
                · rw [v1] at q2
                  omega
        have : ∀ (L : List Nat), (∀ o, o ∈ L → o < n) → L.flatMap (fun (o : Nat) => @ite _ (f < (o : Int) ∧ W o = -1 ∧ C f o) (Classical.propDecidable _) (z_pfr n C k (z_pt (z_pt W f o) o f)) []) = L.flatMap (fun (o : Nat) => (z_rws n k (z_pt W f ((Nat.succ o : Nat) - 1 : Int))).filter (z_vlb n C)) := fun L => by
          induction L with
          | nil => exact fun _ => rfl
          | cons o L ih =>
            intro hL
            rw [List.flatMap_cons, List.flatMap_cons, key o (hL o List.mem_cons_self), ih (fun x hx => hL x (List.mem_cons_of_mem _ hx))]
        exact this _ (fun o ho => List.mem_range.mp ho)
    · rw [if_pos (by omega), List.append_nil, ih]
      refine (z_fm_one (n + 1) ((W f).toNat + 1) (by omega) ?_ (fun d hd hne => z_vf_nil (fun R hR q => ?_))).symm
      · rw [show (((W f).toNat + 1 : Nat) : Int) - 1 = W f by omega, z_pt_id rfl]
      · obtain ⟨m1, m2⟩ := mem _ R hR
        have lt : W f < f := by omega
        have r1 := m2 (W f) r.1 lt
        rw [e1] at r1
        have v := q (W f) r.1 r.2
        rw [r1] at v
        obtain ⟨v1, _⟩ := v.resolve_left (by omega)
        omega
end
