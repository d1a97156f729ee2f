/-! orders of few: all of them, the first that is best -/
def z_lxp : Nat → List Nat → List (List Nat)
  | 0, _ => [[]]
  | k + 1, l => l.flatMap (fun x => (z_lxp k (l.erase x)).map (fun p => x :: p))
def z_pv (p : List Nat) : Nat → Nat
  | 0 => 0
  | i + 1 => if p.getD i 0 ≤ p.getD (i + 1) 0 then i + 1 else z_pv p i
def z_sp (p : List Nat) (x : Nat) : Nat → Nat
  | 0 => 0
  | j + 1 => if p.getD x 0 ≤ p.getD (j + 1) 0 then j + 1 else z_sp p x j
def z_xch (p : List Nat) (i j : Nat) : List Nat := (p.set i (p.getD j 0)).set j (p.getD i 0)
def z_rvs : Nat → List Nat → Nat → Nat → List Nat
  | 0, p, _, _ => p
  | k + 1, p, i, j => if j ≤ i then p else z_rvs k (z_xch p i j) (i + 1) (j - 1)
def z_nx (p : List Nat) : Option (List Nat) := if z_pv p (p.length - 1) = 0 then none else some (z_rvs 6 (z_xch p (z_pv p (p.length - 1) - 1) (z_sp p (z_pv p (p.length - 1) - 1) (p.length - 1))) (z_pv p (p.length - 1)) (p.length - 1))
def z_chn : List (List Nat) → Bool
  | [] => false
  | p :: r => match r with
    | [] => decide (z_nx p = none)
    | q :: _ => decide (z_nx p = some q) && z_chn r
theorem z_chn_6 : ∀ n : Nat, n < 7 → z_chn (z_lxp n (List.range n)) = true ∧ (z_lxp n (List.range n)).head? = some (List.range n) := by decide +kernel
theorem z_lxp_p : ∀ (k : Nat) (l : List Nat), l.length = k → ∀ p, p ∈ z_lxp k l → p.Perm l
  | 0, l, h, p, hp => by
    obtain rfl : l = [] := List.eq_nil_of_length_eq_zero h
    unfold z_lxp at hp
    rw [List.mem_singleton] at hp
    rw [hp]
  | k + 1, l, h, p, hp => by
    unfold z_lxp at hp
    rw [List.mem_flatMap] at hp
    obtain ⟨x, hx, hp⟩ := hp
    rw [List.mem_map] at hp
    obtain ⟨q, hq, rfl⟩ := hp
    have := z_lxp_p k (l.erase x) (by rw [List.length_erase_of_mem hx]; omega) q hq
    exact (List.Perm.cons x this).trans (List.perm_cons_erase hx).symm
def z_wr (h : Nat → Int) (a b : Nat) : Prop := h a < h b ∨ (h a = h b ∧ a < b)
theorem z_lxp_f (h : Nat → Int) : ∀ (k : Nat) (l s : List Nat), l.length = k → l.Pairwise (fun a b => a < b) → s.Perm l → s.Pairwise (z_wr h) → ∃ A B, z_lxp k l = A ++ s :: B ∧ ∀ a, a ∈ A → ¬ a.Pairwise (fun x y => h x ≤ h y)
  | 0, l, s, hk, _, hs, _ => by
    obtain rfl : l = [] := List.eq_nil_of_length_eq_zero hk
    obtain rfl : s = [] := hs.eq_nil
    exact ⟨[], [], rfl, fun a ha => absurd ha (by simp)⟩
  | k + 1, l, s, hk, hl, hs, hR => by
    cases s with
    | nil =>
      have := hs.length_eq
      simp only [List.length_nil] at this
      omega
    | cons x t =>
      have hx : x ∈ l := hs.mem_iff.mp List.mem_cons_self
      obtain ⟨l1, l2, e⟩ := List.append_of_mem hx
      have ht : t.Perm (l.erase x) := (hs.trans (List.perm_cons_erase hx)).cons_inv
      have hR2 := List.pairwise_cons.mp hR
      obtain ⟨A, B, e2, hA⟩ := z_lxp_f h k (l.erase x) t (by rw [List.length_erase_of_mem hx]; omega) (hl.sublist List.erase_sublist) ht hR2.2
      obtain ⟨F, hF⟩ : ∃ F : Nat → List (List Nat), F = fun y => (z_lxp k (l.erase y)).map (fun p => y :: p) := ⟨_, rfl⟩
      refine ⟨l1.flatMap F ++ A.map (fun p => x :: p), B.map (fun p => x :: p) ++ l2.flatMap F, ?_, fun a ha => ?_⟩
      · have e3 : z_lxp (k + 1) l = l.flatMap F := by rw [hF]; rfl
        have e4 : F x = A.map (fun p => x :: p) ++ (x :: t) :: B.map (fun p => x :: p) := by
          rw [hF]
          show (z_lxp k (l.erase x)).map (fun p => x :: p) = _
          rw [e2, List.map_append, List.map_cons]
        rw [e3]
        conv => lhs; rw [e]
        rw [List.flatMap_append, List.flatMap_cons, e4]
        simp only [List.append_assoc, List.cons_append]
      · rw [List.mem_append] at ha
        rcases ha with ha | ha
        · obtain ⟨y, hy, ha⟩ := List.mem_flatMap.mp ha
          rw [hF] at ha
          obtain ⟨p, hp, rfl⟩ := List.mem_map.mp ha
          have hyl : y ∈ l := by
            rw [e]
            exact List.mem_append_left _ hy
          have hlt : y < x := by
            rw [e, List.pairwise_append] at hl
            exact hl.2.2 y hy x List.mem_cons_self
          have pp := z_lxp_p k (l.erase y) (by rw [List.length_erase_of_mem hyl]; omega) p hp
          have hxp : x ∈ p := pp.mem_iff.mpr ((List.mem_erase_of_ne (by omega)).mpr hx)
          have hyt : y ∈ t := by
            have := hs.mem_iff.mpr hyl
            rw [List.mem_cons] at this
            exact this.resolve_left (by omega)
          have r := hR2.1 y hyt
          unfold z_wr at r
          intro q
          have := (List.pairwise_cons.mp q).1 x hxp
          omega
        · obtain ⟨p, hp, rfl⟩ := List.mem_map.mp ha
          intro q
          exact hA p hp (List.pairwise_cons.mp q).2
/-! what an order costs -/
def z_swm (w : Nat → Int) : List Nat → Int
  | [] => 0
  | x :: l => w x + z_swm w l
def z_ct (s w : Nat → Int) : List Nat → Int
  | [] => 0
  | x :: l => s x * z_swm w l + z_ct s w l
def z_lo (s w : Nat → Int) : Int → List Nat → Int
  | _, [] => 0
  | H, x :: l => H * w x + z_lo s w (H + s x) l
theorem z_lo_c (s w : Nat → Int) : ∀ (l : List Nat) (H : Int), z_lo s w H l = H * z_swm w l + z_ct s w l
  | [], H => by simp [z_lo, z_swm, z_ct]
  | x :: l, H => by
    rw [z_lo, z_lo_c s w l, z_swm, z_ct, Int.add_mul, Int.mul_add]
    omega
def z_mn (w h : Nat → Int) (x : Nat) : List Nat → Int
  | [] => 0
  | y :: l => w x * w y * min (h x) (h y) + z_mn w h x l
def z_c2 (w h : Nat → Int) : List Nat → Int
  | [] => 0
  | x :: l => z_mn w h x l + z_c2 w h l
theorem z_mn_pm {w h : Nat → Int} {x : Nat} {l l' : List Nat} (p : l.Perm l') : z_mn w h x l = z_mn w h x l' := by
  induction p with
  | nil => rfl
  | cons y _ ih => rw [z_mn, z_mn, ih]
  | swap y z l =>
    simp only [z_mn]
    omega
  | trans _ _ h1 h2 => rw [h1, h2]
theorem z_c2_pm {w h : Nat → Int} {l l' : List Nat} (p : l.Perm l') : z_c2 w h l = z_c2 w h l' := by
  induction p with
  | nil => rfl
  | cons y q ih => rw [z_c2, z_c2, ih, z_mn_pm q]
  | swap y z l =>
    simp only [z_c2, z_mn]
    rw [Int.mul_comm (w z) (w y), Int.min_comm (h z) (h y)]
    omega
  | trans _ _ h1 h2 => rw [h1, h2]
theorem z_mn_le {s w h : Nat → Int} {x : Nat} (hx : s x = h x * w x) (wx : 0 < w x) : ∀ l : List Nat, (∀ y, y ∈ l → 0 < w y) → z_mn w h x l ≤ s x * z_swm w l ∧ ((∀ y, y ∈ l → h x ≤ h y) → z_mn w h x l = s x * z_swm w l) ∧ ((∃ y, y ∈ l ∧ h y < h x) → z_mn w h x l < s x * z_swm w l)
  | [], _ => ⟨by simp [z_mn, z_swm], fun _ => by simp [z_mn, z_swm], fun ⟨y, q, _⟩ => absurd q (by simp)⟩
  | y :: l, hw => by
    obtain ⟨a, b, c⟩ := z_mn_le hx wx l (fun z hz => hw z (List.mem_cons_of_mem _ hz))
    have wy := hw y List.mem_cons_self
    have e : s x * w y = w x * w y * h x := by rw [hx, Int.mul_assoc, Int.mul_comm]
    have pos : 0 < w x * w y := Int.mul_pos wx wy
    rw [z_mn, z_swm, Int.mul_add, e]
    have m1 : w x * w y * min (h x) (h y) ≤ w x * w y * h x := Int.mul_le_mul_of_nonneg_left (by omega) (by omega)
    refine ⟨by omega, fun q => ?_, fun ⟨z, hz, q⟩ => ?_⟩
    · rw [b (fun z hz => q z (List.mem_cons_of_mem _ hz)), show min (h x) (h y) = h x by have := q y List.mem_cons_self; omega]
    · by_cases t : h y < h x
      · have m2 : w x * w y * min (h x) (h y) < w x * w y * h x := Int.mul_lt_mul_of_pos_left (by omega) pos
        omega
      · rw [List.mem_cons] at hz
        have := c ⟨z, hz.resolve_left (fun e => t (e ▸ q)), q⟩
        omega
theorem z_ct_c2 {s w h : Nat → Int} : ∀ l : List Nat, (∀ y, y ∈ l → s y = h y * w y ∧ 0 < w y) → z_c2 w h l ≤ z_ct s w l ∧ (l.Pairwise (fun a b => h a ≤ h b) → z_c2 w h l = z_ct s w l) ∧ (¬ l.Pairwise (fun a b => h a ≤ h b) → z_c2 w h l < z_ct s w l)
  | [], _ => ⟨Int.le_refl _, fun _ => rfl, fun q => absurd List.Pairwise.nil q⟩
  | x :: l, hw => by
    obtain ⟨a, b, c⟩ := z_ct_c2 (s := s) l (fun y hy => hw y (List.mem_cons_of_mem _ hy))
    have w0 := hw x List.mem_cons_self
    obtain ⟨a2, b2, c2⟩ := z_mn_le (s := s) (h := h) w0.1 w0.2 l (fun y hy => (hw y (List.mem_cons_of_mem _ hy)).2)
    rw [z_c2, z_ct, List.pairwise_cons]
    refine ⟨by omega, fun q => by rw [b q.2, b2 q.1], fun q => ?_⟩
    by_cases t : l.Pairwise (fun a b => h a ≤ h b)
    · have : ∃ y, y ∈ l ∧ h y < h x := Classical.byContradiction fun n => q ⟨fun y hy => Classical.byContradiction fun m => n ⟨y, hy, by omega⟩, t⟩
      have := c2 this
      omega
    · have := c t
      omega
/-- the first of the best -/
def z_fm (c : List Nat → Int) : Int × List Nat → List (List Nat) → Int × List Nat
  | a, [] => a
  | a, p :: l => z_fm c (if c p < a.1 then (c p, p) else a) l
theorem z_fm_k {c : List Nat → Int} {a : Int × List Nat} : ∀ B : List (List Nat), (∀ b, b ∈ B → a.1 ≤ c b) → z_fm c a B = a
  | [], _ => rfl
  | p :: B, h => by
    have := h p List.mem_cons_self
    rw [z_fm, if_neg (by omega)]
    exact z_fm_k B (fun b hb => h b (List.mem_cons_of_mem _ hb))
theorem z_fm_at {c : List Nat → Int} {s : List Nat} {B : List (List Nat)} (hB : ∀ b, b ∈ B → c s ≤ c b) : ∀ (A : List (List Nat)) (a : Int × List Nat), (∀ b, b ∈ A → c s < c b) → c s < a.1 → z_fm c a (A ++ s :: B) = (c s, s)
  | [], a, _, h0 => by
    rw [List.nil_append, z_fm, if_pos h0]
    exact z_fm_k B hB
  | p :: A, a, hA, h0 => by
    rw [List.cons_append, z_fm]
    refine z_fm_at hB A _ (fun b hb => hA b (List.mem_cons_of_mem _ hb)) ?_
    have := hA p List.mem_cons_self
    split
    · exact this
    · exact h0
theorem z_best {s w h : Nat → Int} {n : Nat} {r : List Nat} (hw : ∀ y : Nat, y < n → s y = h y * w y ∧ 0 < w y) (hr : r.Perm (List.range n)) (hp : r.Pairwise (z_wr h)) (a : Int × List Nat) (h0 : z_ct s w r < a.1) : z_fm (z_ct s w) a (z_lxp n (List.range n)) = (z_ct s w r, r) := by
  obtain ⟨A, B, e, hA⟩ := z_lxp_f h n (List.range n) r List.length_range List.pairwise_lt_range hr hp
  have hm : ∀ p : List Nat, p.Perm (List.range n) → ∀ y, y ∈ p → s y = h y * w y ∧ 0 < w y := fun p q y hy => hw y (List.mem_range.mp (q.mem_iff.mp hy))
  have hall : ∀ p, p ∈ z_lxp n (List.range n) → p.Perm (List.range n) := z_lxp_p n (List.range n) List.length_range
  have ps : r.Pairwise (fun a b => h a ≤ h b) := hp.imp (fun q => by
    unfold z_wr at q
    omega)
  have e1 := (z_ct_c2 r (hm r hr)).2.1 ps
  rw [e]
  refine z_fm_at (fun b hb => ?_) A a (fun b hb => ?_) h0
  · have pb := hall b (by rw [e]; exact List.mem_append_right _ (List.mem_cons_of_mem _ hb))
    have := (z_ct_c2 b (hm b pb)).1
    rw [z_c2_pm (pb.trans hr.symm)] at this
    omega
  · have pb := hall b (by rw [e]; exact List.mem_append_left _ hb)
    have := (z_ct_c2 b (hm b pb)).2.2 (hA b hb)
    rw [z_c2_pm (pb.trans hr.symm)] at this
    omega
