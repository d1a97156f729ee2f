section
variable {n : Nat} {C : Int → Int → Prop}
def z_dgr (n k y : Nat) (W : Int → Int) : Int → Int := fun f => if (n : Int) - k ≤ f ∧ f < n then ((y / (n + 1) ^ ((n : Int) - 1 - f).toNat % (n + 1) : Nat) : Int) - 1 else W f
theorem z_rng (K : Nat) : ∀ b : Nat, List.range (b * K) = (List.range b).flatMap (fun d => (List.range K).map (fun y => d * K + y))
  | 0 => by rw [Nat.zero_mul]; rfl
  | b + 1 => by
    rw [Nat.succ_mul, List.range_add, z_rng K b, List.range_succ, List.flatMap_append, List.flatMap_cons, List.flatMap_nil, List.append_nil]
theorem z_dgr_s {k d y : Nat} {W : Int → Int} (hk : k + 1 ≤ n) (hd : d < n + 1) (hy : y < (n + 1) ^ k) : z_dgr n (k + 1) (d * (n + 1) ^ k + y) W = z_dgr n k y (z_pt W ((n : Int) - k - 1) ((d : Int) - 1)) := by
  funext f
  unfold z_dgr
  have pos : 0 < (n + 1) ^ k := Nat.pow_pos (by omega)
  by_cases e : f = (n : Int) - k - 1
  · rw [if_pos (by omega), if_neg (by omega), e, z_pt_s, show ((n : Int) - 1 - ((n : Int) - k - 1)).toNat = k by omega, Nat.add_comm, Nat.add_mul_div_right _ _ pos, Nat.div_eq_of_lt hy, Nat.zero_add, Nat.mod_eq_of_lt hd]
  · by_cases c : (n : Int) - k ≤ f ∧ f < n
    · rw [if_pos (by omega), if_pos c]
      obtain ⟨j, hj⟩ : ∃ j : Nat, ((n : Int) - 1 - f).toNat = j := ⟨_, rfl⟩
      rw [hj]
      obtain ⟨m, hm⟩ : ∃ m : Nat, k = j + (m + 1) := ⟨k - j - 1, by omega⟩
      have e1 : d * (n + 1) ^ k = (d * (n + 1) ^ m * (n + 1)) * (n + 1) ^ j := by
        rw [hm, Nat.pow_add, Nat.pow_succ, Nat.mul_comm ((n + 1) ^ j), Nat.mul_assoc, Nat.mul_assoc, Nat.mul_assoc]
      rw [e1, Nat.add_comm, Nat.add_mul_div_right _ _ (Nat.pow_pos (by omega)), Nat.add_mul_mod_self_right]
    · rw [if_neg (by omega), if_neg c, z_pt_n e]
theorem z_rws_d : ∀ (k : Nat) (W : Int → Int), k ≤ n → z_rws n k W = (List.range ((n + 1) ^ k)).map (fun y => z_dgr n k y W)
  | 0, W, _ => by
    rw [z_rws, Nat.pow_zero]
    show [W] = [z_dgr n 0 0 W]
    congr 1
    funext f
    unfold z_dgr
    rw [if_neg (by omega)]
  | k + 1, W, hk => by
    rw [z_rws, Nat.pow_succ, Nat.mul_comm, z_rng, List.map_flatMap]
    have : ∀ (L : List Nat), (∀ d, d ∈ L → d < n + 1) → L.flatMap (fun (d : Nat) => z_rws n k (z_pt W ((n : Int) - k - 1) ((d : Int) - 1))) = L.flatMap (fun d => ((List.range ((n + 1) ^ k)).map (fun y => d * (n + 1) ^ k + y)).map (fun y => z_dgr n (k + 1) y W)) := fun L => by
      induction L with
      | nil => exact fun _ => rfl
      | cons d L ih =>
        intro hL
        rw [List.flatMap_cons, List.flatMap_cons, ih (fun x hx => hL x (List.mem_cons_of_mem _ hx)), z_rws_d k _ (by omega), List.map_map]
        congr 1
        refine List.map_congr_left (fun y hy => ?_)
        exact (z_dgr_s hk (hL d List.mem_cons_self) (List.mem_range.mp hy)).symm
    exact this _ (fun d hd => List.mem_range.mp hd)
/-! a calm way there always is -/
noncomputable def z_hsv (w : Int → Int → Int) (W : Int → Int) (a : Int) : Int := if W a < 0 then 0 else w a (W a)
/-- two would rather have one another -/
def z_blk (n : Nat) (C : Int → Int → Prop) (w : Int → Int → Int) (W : Int → Int) (a b : Int) : Prop := (0 ≤ a ∧ a < n) ∧ (0 ≤ b ∧ b < n) ∧ C a b ∧ z_hsv w W a < w a b ∧ z_hsv w W b < w b a
theorem z_mxe {p : Int → Prop} {g : Int → Int} : ∀ n : Nat, (∃ a : Int, 0 ≤ a ∧ a < n ∧ p a) → ∃ a : Int, (0 ≤ a ∧ a < n) ∧ p a ∧ ∀ b : Int, 0 ≤ b → b < n → p b → g b ≤ g a
  | 0, ⟨a, h1, h2, _⟩ => absurd h2 (by omega)
  | n + 1, ⟨a, h1, h2, h3⟩ => by
    by_cases c : ∃ a : Int, 0 ≤ a ∧ a < n ∧ p a
    · obtain ⟨a', q1, q2, q3⟩ := z_mxe (g := g) n c
      by_cases c2 : p n ∧ g a' < g n
      · refine ⟨n, by omega, c2.1, fun b b1 b2 b3 => ?_⟩
        by_cases e : b = n
        · rw [e]; omega
        · have := q3 b b1 (by omega) b3
          omega
      · refine ⟨a', by omega, q2, fun b b1 b2 b3 => ?_⟩
        by_cases e : b = n
        · rw [e] at b3 ⊢
          exact Classical.byContradiction fun z => c2 ⟨b3, by omega⟩
        · exact q3 b b1 (by omega) b3
    · have e : a = n := Classical.byContradiction fun z => c ⟨a, h1, by omega, h3⟩
      refine ⟨n, by omega, e ▸ h3, fun b b1 b2 b3 => ?_⟩
      by_cases e : b = n
      · rw [e]; omega
      · exact absurd ⟨b, b1, by omega, b3⟩ c
def z_smi (g : Int → Int) : Nat → Int
  | 0 => 0
  | k + 1 => z_smi g k + g k
theorem z_smi_b {g : Int → Int} {B : Int} : ∀ k : Nat, (∀ i : Int, 0 ≤ i → i < k → g i ≤ B) → z_smi g k ≤ B * k
  | 0, _ => by simp [z_smi]
  | k + 1, h => by
    have := z_smi_b k (fun i a b => h i a (by omega))
    have := h k (by omega) (by omega)
    rw [z_smi, show ((k + 1 : Nat) : Int) = k + 1 by omega, Int.mul_add]
    omega
theorem z_smi_lt {g g' : Int → Int} {a : Int} : ∀ k : Nat, (∀ i : Int, 0 ≤ i → i < k → g i ≤ g' i) → z_smi g k ≤ z_smi g' k ∧ (0 ≤ a → a < k → g a < g' a → z_smi g k < z_smi g' k)
  | 0, _ => ⟨Int.le_refl _, fun _ h => by omega⟩
  | k + 1, h => by
    have ih := z_smi_lt (a := a) k (fun i a b => h i a (by omega))
    have := h k (by omega) (by omega)
    rw [z_smi, z_smi]
    refine ⟨by omega, fun h1 h2 h3 => ?_⟩
    by_cases e : a = k
    · rw [e] at h3
      omega
    · have := ih.2 h1 (by omega) h3
      omega
theorem z_calm_ex {w : Int → Int → Int} {S : Int → Int} (hs : ∀ a b, C a b → C b a) (hC : ∀ a b : Int, C a b → S a ≠ S b ∧ 0 ≤ w a b) (hS : ∀ a : Int, 0 ≤ a → a < n → S a = 0 ∨ S a = 1) (hw : ∀ a b : Int, 0 ≤ a → a < n → 0 ≤ b → b < n → w a b ≤ 99) : ∃ W : Int → Int, z_prt n C n W ∧ ∀ a b, ¬ z_blk n C w W a b := by
  have step : ∀ (m : Nat) (W : Int → Int), z_prt n C n W → (∀ a b, S a = 0 → z_blk n C w W a b → W b = -1) → 99 * (n : Int) - z_smi (fun a => if S a = 0 then z_hsv w W a else 0) n < m → ∃ W : Int → Int, z_prt n C n W ∧ ∀ a b, ¬ z_blk n C w W a b := by
    intro m
    induction m with
    | zero =>
      intro W hW _ hm
      have := z_smi_b (g := fun a => if S a = 0 then z_hsv w W a else 0) (B := 99) n (fun i h1 h2 => by
        show (if S i = 0 then z_hsv w W i else 0) ≤ 99
        unfold z_hsv
        split
        · split
          · omega
          · have := hW.2 i h1 h2
            exact hw i (W i) h1 h2 (by omega) (by omega)
        · omega)
      omega
    | succ m ih =>
      intro W hW hsim hm
      by_cases calm : ∀ a b, ¬ z_blk n C w W a b
      · exact ⟨W, hW, calm⟩
      obtain ⟨a0, b, hb0, hS0⟩ : ∃ a b, z_blk n C w W a b ∧ S a = 0 := by
        refine Classical.byContradiction fun q => calm (fun a b hb => ?_)
        obtain ⟨h1, h2, h3, h4, h5⟩ := hb
        have := hS a h1.1 h1.2
        have := hS b h2.1 h2.2
        have := (hC a b h3).1
        by_cases c : S a = 0
        · exact q ⟨a, b, ⟨h1, h2, h3, h4, h5⟩, c⟩
        · exact q ⟨b, a, ⟨h2, h1, hs a b h3, h5, h4⟩, by omega⟩
      obtain ⟨a, ha, ⟨hab, hSa⟩, hmax⟩ := z_mxe (p := fun a => z_blk n C w W a b ∧ S a = 0) (g := fun a => w b a) n ⟨a0, hb0.1.1, hb0.1.2, hb0, hS0⟩
      have hWb : W b = -1 := hsim a b hSa hab
      obtain ⟨_, hbr, hCab, ba, bb⟩ := hab
      have hSb : S b ≠ 0 := by
        have := (hC a b hCab).1
        omega
      obtain ⟨w1, w2⟩ := hW
      have hab' : a ≠ b := fun e => hSb (e ▸ hSa)
      -- the one that a leaves
      obtain ⟨c, hc⟩ : ∃ c, W a = c := ⟨_, rfl⟩
      obtain ⟨V, hV⟩ : ∃ V : Int → Int, V = fun i => if i = a then b else if i = b then a else if 0 ≤ c ∧ i = c then -1 else W i := ⟨_, rfl⟩
      have Va : V a = b := by rw [hV]; exact if_pos rfl
      have Vb : V b = a := by
        rw [hV]
        show (if b = a then b else if b = b then a else _) = a
        rw [if_neg (fun e => hab' e.symm), if_pos rfl]
      have Vo : ∀ i, i ≠ a → i ≠ b → V i = if 0 ≤ c ∧ i = c then -1 else W i := fun i h1 h2 => by
        rw [hV]
        show (if i = a then b else if i = b then a else _) = _
        rw [if_neg h1, if_neg h2]
      have hcc : 0 ≤ c → (c < n ∧ W c = a ∧ C a c ∧ S c ≠ 0) := fun h => by
        rcases w2 a ha.1 ha.2 with q | ⟨q1, q2, q3, _⟩
        · omega
        · rw [hc] at q1 q2 q3
          have := (hC a c q3).1
          exact ⟨q1.2, q2, q3, by omega⟩
      have hasS : ∀ i, S i = 0 → i ≠ a → z_hsv w V i = z_hsv w W i := fun i h1 h2 => by
        have e : V i = W i := by
          rw [Vo i h2 (fun e => hSb (e ▸ h1)), if_neg (fun (q : 0 ≤ c ∧ i = c) => (hcc q.1).2.2.2 (q.2 ▸ h1))]
        unfold z_hsv
        rw [e]
      have hasO : ∀ i, i ≠ a → i ≠ b → ¬ (0 ≤ c ∧ i = c) → z_hsv w V i = z_hsv w W i := fun i h1 h2 h3 => by
        have e : V i = W i := by rw [Vo i h1 h2, if_neg h3]
        unfold z_hsv
        rw [e]
      have hasa : z_hsv w V a = w a b := by
        unfold z_hsv
        rw [Va, if_neg (by omega)]
      have hasb : z_hsv w V b = w b a := by
        unfold z_hsv
        rw [Vb, if_neg (by omega)]
      refine ih V ⟨fun i hi => ?_, fun i h1 h2 => ?_⟩ (fun a2 b2 hS2 hb2 => ?_) ?_
      · rw [Vo i (by omega) (by omega), w1 i hi, ite_self]
      · by_cases e1 : i = a
        · rw [e1, Va, Vb]
          exact Or.inr ⟨hbr, rfl, hCab, by omega⟩
        · by_cases e2 : i = b
          · rw [e2, Vb, Va]
            exact Or.inr ⟨ha, rfl, hs a b hCab, by omega⟩
          · rw [Vo i e1 e2]
            by_cases e3 : 0 ≤ c ∧ i = c
            · rw [if_pos e3]
              exact Or.inl rfl
            · rw [if_neg e3]
              rcases w2 i h1 h2 with q | ⟨q1, q2, q3, q4⟩
              · exact Or.inl q
              · refine Or.inr ⟨q1, ?_, q3, by omega⟩
                have na : W i ≠ a := fun e => by
                  rw [e, hc] at q2
                  exact e3 ⟨by omega, q2.symm⟩
                have nb : W i ≠ b := fun e => by
                  rw [e, hWb] at q2
                  omega
                have nc : ¬ (0 ≤ c ∧ W i = c) := fun e => by
                  have := (hcc e.1).2.1
                  rw [← e.2, q2] at this
                  exact e1 this
                rw [Vo (W i) na nb, if_neg nc]
                exact q2
      · obtain ⟨r1, r2, r3, r4, r5⟩ := hb2
        by_cases e2 : b2 = b
        · rw [e2] at r3 r4 r5
          rw [hasb] at r5
          by_cases e1 : a2 = a
          · rw [e1] at r5
            omega
          · rw [hasS a2 hS2 e1] at r4
            have := hmax a2 r1.1 r1.2 ⟨⟨r1, hbr, r3, r4, by omega⟩, hS2⟩
            omega
        · have n2 : b2 ≠ a := fun e => by
            have := (hC a2 b2 r3).1
            rw [e] at this
            omega
          rw [Vo b2 n2 e2]
          by_cases e3 : 0 ≤ c ∧ b2 = c
          · rw [if_pos e3]
          · rw [if_neg e3]
            rw [hasO b2 n2 e2 e3] at r5
            refine hsim a2 b2 hS2 ⟨r1, r2, r3, ?_, r5⟩
            by_cases e1 : a2 = a
            · rw [e1, hasa] at r4
              rw [e1]
              omega
            · rw [hasS a2 hS2 e1] at r4
              exact r4
      · have lt := (z_smi_lt (g := fun a => if S a = 0 then z_hsv w W a else 0) (g' := fun a => if S a = 0 then z_hsv w V a else 0) (a := a) n (fun i h1 h2 => by
          show (if S i = 0 then z_hsv w W i else 0) ≤ (if S i = 0 then z_hsv w V i else 0)
          by_cases c0 : S i = 0
          · rw [if_pos c0, if_pos c0]
            by_cases e1 : i = a
            · rw [e1, hasa]
              omega
            · rw [hasS i c0 e1]
              omega
          · rw [if_neg c0, if_neg c0]
            omega)).2 ha.1 ha.2 (by
          show (if S a = 0 then z_hsv w W a else 0) < (if S a = 0 then z_hsv w V a else 0)
          rw [if_pos hSa, if_pos hSa, hasa]
          omega)
        omega
  have h0 : z_prt n C n (fun _ => -1) := ⟨fun _ _ => rfl, fun _ _ _ => Or.inl rfl⟩
  refine step (99 * (n : Int) - z_smi (fun a => if S a = 0 then z_hsv w (fun _ => -1) a else 0) n + 1).toNat (fun _ => -1) h0 (fun _ _ _ _ => rfl) ?_
  have := z_smi_b (g := fun a => if S a = 0 then z_hsv w (fun _ => -1) a else 0) (B := 99) n (fun i h1 h2 => by
    show (if S i = 0 then z_hsv w (fun _ => -1) i else 0) ≤ 99
    unfold z_hsv
    dsimp only
    split
    · split <;> omega
    · omega)
  omega
end
