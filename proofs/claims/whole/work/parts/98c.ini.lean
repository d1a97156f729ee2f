/-! THE CONSTRUCTORS: the little machine on rows -/
abbrev y_T := List (List Int)
def y_rd (R : y_T) (q i : Int) : Int := if 0 < q ∧ 0 ≤ i then (R.getD (q - 1).toNat []).getD i.toNat 0 else 0
def y_of (R : y_T) : z_M := fun a b => y_rd R a b
def y_wr (R : y_T) (q i v : Int) : Option y_T := if 0 < q ∧ 0 ≤ i then (match R[(q - 1).toNat]? with
    | some r => if i.toNat < r.length then some (R.set (q - 1).toNat (r.set i.toNat v)) else none
    | none => none)
  else none
theorem y_wr_s {R R' : y_T} {q i v : Int} (h : y_wr R q i v = some R') : y_of R' = z_up (y_of R) q i v ∧ R'.length = R.length := by
  unfold y_wr at h
  split at h
  · rename_i h0
    split at h
    · rename_i r hr
      split at h
      · rename_i hl
        cases h
        refine ⟨?_, List.length_set⟩
        obtain ⟨hq, hrq⟩ := List.getElem?_eq_some_iff.mp hr
        funext a b
        show y_rd _ a b = _
        unfold z_up y_of y_rd
        by_cases ha : 0 < a ∧ 0 ≤ b
        · rw [if_pos ha]
          by_cases e : a = q
          · have e1 : (a - 1).toNat = (q - 1).toNat := by rw [e]
            have e2 : (R.set (q - 1).toNat (r.set i.toNat v)).getD (a - 1).toNat [] = r.set i.toNat v := by
              rw [e1, List.getD_eq_getElem?_getD, List.getElem?_set_self hq]
              rfl
            have e3 : R.getD (a - 1).toNat [] = r := by
              rw [e1, List.getD_eq_getElem?_getD, hr]
              rfl
            rw [e2]
            by_cases e4 : b = i
            · rw [if_pos ⟨e, e4⟩, e4, List.getD_eq_getElem?_getD, List.getElem?_set_self hl]
              rfl
            · rw [if_neg (fun c => e4 c.2), if_pos ha, e3, List.getD_eq_getElem?_getD, List.getElem?_set_ne (by omega), ← List.getD_eq_getElem?_getD]
          · have e2 : (R.set (q - 1).toNat (r.set i.toNat v)).getD (a - 1).toNat [] = R.getD (a - 1).toNat [] := by
              rw [List.getD_eq_getElem?_getD, List.getD_eq_getElem?_getD, List.getElem?_set_ne (by omega)]
            rw [if_neg (fun c => e c.1), if_pos ha, e2]
        · rw [if_neg ha, if_neg ha, if_neg (fun c => by omega)]
      · cases h
    · cases h
  · cases h
theorem y_new (R : y_T) (n : Nat) : y_of (R ++ [List.replicate n 0]) = z_clr (y_of R) ((R.length : Int) + 1) := by
  funext a b
  show y_rd _ a b = _
  unfold z_clr y_of y_rd
  by_cases ha : 0 < a ∧ 0 ≤ b
  · rw [if_pos ha]
    by_cases e : a = (R.length : Int) + 1
    · have e1 : (a - 1).toNat = R.length := by omega
      have e2 : (R ++ [List.replicate n 0]).getD (a - 1).toNat [] = List.replicate n (0 : Int) := by
        rw [e1, List.getD_eq_getElem?_getD, List.getElem?_append_right (Nat.le_refl _), Nat.sub_self]
        rfl
      rw [if_pos e, e2, List.getD_eq_getElem?_getD]
      by_cases l : b.toNat < n
      · rw [List.getElem?_replicate, if_pos l]
        rfl
      · rw [List.getElem?_replicate, if_neg l]
        rfl
    · rw [if_neg e, if_pos ha]
      have e2 : (R ++ [List.replicate n 0]).getD (a - 1).toNat [] = R.getD (a - 1).toNat [] := by
        rw [List.getD_eq_getElem?_getD, List.getD_eq_getElem?_getD]
        by_cases l : (a - 1).toNat < R.length
        · rw [List.getElem?_append_left l]
        · rw [List.getElem?_eq_none (by rw [List.length_append, List.length_singleton]; omega), List.getElem?_eq_none (by omega)]
      rw [e2]
  · rw [if_neg ha, if_neg ha]
    split <;> rfl
/-- a copy of ints -/
def y_cp (R : y_T) (q0 s0 q1 s1 n : Int) : Option y_T := if 0 < q1 ∧ 0 ≤ s1 then (match R[(q1 - 1).toNat]? with
    | some r => if s1 + n ≤ (r.length : Int) then some (R.set (q1 - 1).toNat ((List.range r.length).map (fun j : Nat => if s1 ≤ (j : Int) ∧ (j : Int) < s1 + n then y_rd R q0 (s0 + ((j : Int) - s1)) else y_rd R q1 (j : Int)))) else none
    | none => none)
  else none
theorem y_cp_s {R R' : y_T} {q0 s0 q1 s1 n : Int} (h : y_cp R q0 s0 q1 s1 n = some R') : y_of R' = z_cpy (y_of R) q0 s0 q1 s1 n ∧ R'.length = R.length := by
  unfold y_cp at h
  split at h
  · rename_i h0
    split at h
    · rename_i r hr
      split at h
      · rename_i hl
        cases h
        refine ⟨?_, List.length_set⟩
        obtain ⟨hq, hrq⟩ := List.getElem?_eq_some_iff.mp hr
        generalize hw : (List.range r.length).map (fun j : Nat => if s1 ≤ (j : Int) ∧ (j : Int) < s1 + n then y_rd R q0 (s0 + ((j : Int) - s1)) else y_rd R q1 (j : Int)) = w
        have e5 : R.getD (q1 - 1).toNat [] = r := by
          rw [List.getD_eq_getElem?_getD, hr]
          rfl
        funext a b
        show y_rd _ a b = if a = q1 ∧ s1 ≤ b ∧ b < s1 + n then y_rd R q0 (s0 + (b - s1)) else y_rd R a b
        by_cases e : a = q1
        · rw [e]
          have e2 : (R.set (q1 - 1).toNat w).getD (q1 - 1).toNat [] = w := by
            rw [List.getD_eq_getElem?_getD, List.getElem?_set_self hq]
            rfl
          by_cases hb : 0 ≤ b
          · have e3 : y_rd (R.set (q1 - 1).toNat w) q1 b = w.getD b.toNat 0 := by
              unfold y_rd
              rw [if_pos ⟨h0.1, hb⟩, e2]
            rw [e3, ← hw, List.getD_eq_getElem?_getD, List.getElem?_map]
            by_cases hb2 : b.toNat < r.length
            · rw [List.getElem?_range hb2]
              show (if s1 ≤ (b.toNat : Int) ∧ (b.toNat : Int) < s1 + n then y_rd R q0 (s0 + ((b.toNat : Int) - s1)) else y_rd R q1 (b.toNat : Int)) = _
              rw [Int.toNat_of_nonneg hb]
              by_cases e4 : s1 ≤ b ∧ b < s1 + n
              · rw [if_pos e4, if_pos ⟨rfl, e4⟩]
              · rw [if_neg e4, if_neg (fun c => e4 c.2)]
            · rw [List.getElem?_eq_none (by rw [List.length_range]; omega)]
              rw [if_neg (fun c => by omega)]
              show (0 : Int) = _
              unfold y_rd
              rw [if_pos ⟨h0.1, hb⟩, e5, List.getD_eq_getElem?_getD, List.getElem?_eq_none (by omega)]
              rfl
          · rw [if_neg (fun c => by omega)]
            unfold y_rd
            rw [if_neg (fun c => hb c.2), if_neg (fun c => hb c.2)]
        · rw [if_neg (fun c => e c.1)]
          unfold y_rd
          by_cases ha : 0 < a ∧ 0 ≤ b
          · have e2 : (R.set (q1 - 1).toNat w).getD (a - 1).toNat [] = R.getD (a - 1).toNat [] := by
              rw [List.getD_eq_getElem?_getD, List.getD_eq_getElem?_getD, List.getElem?_set_ne (by omega)]
            rw [if_pos ha, if_pos ha, e2]
          · rw [if_neg ha, if_neg ha]
      · cases h
    · cases h
  · cases h
/-- the rows behind an instruction -/
def y_nxt (c : z_C) (st : List z_V) (R : y_T) : Option y_T := match c.1 with
  | .putfield _ => (match st with
    | x :: v :: _ => y_wr R v.2 c.2.2.2 x.2
    | _ => none)
  | .iastore => (match st with
    | x :: i :: v :: _ => y_wr R v.2 i.2 x.2
    | _ => none)
  | .lastore => (match st with
    | x :: i :: v :: _ => y_wr R v.2 i.2 x.2
    | _ => none)
  | .aastore => (match st with
    | x :: i :: v :: _ => y_wr R v.2 i.2 x.2
    | _ => none)
  | .bastore => none
  | .new _ => some (R ++ [List.replicate (z_nf c.2.2.1) 0])
  | .newarray _ => (match st with
    | n :: _ => some (R ++ [List.replicate n.2.toNat 0])
    | _ => none)
  | .anewarray _ => (match st with
    | n :: _ => some (R ++ [List.replicate n.2.toNat 0])
    | _ => none)
  | .invokespecial _ => if c.2.2.1 = 2004 then none else some R
  | .invokestatic _ => if c.2.2.1 = 2004 then (match st with
    | n :: d :: q1 :: s :: q0 :: _ => y_cp R q0.2 s.2 q1.2 d.2 n.2
    | _ => none) else some R
  | .arraylength => (match st with
    | v :: _ => if v.2 = -1 then none else some R
    | _ => none)
  | .iaload => (match st with
    | _ :: v :: _ => if v.2 = -1 then none else some R
    | _ => none)
  | .laload => (match st with
    | _ :: v :: _ => if v.2 = -1 then none else some R
    | _ => none)
  | .baload => (match st with
    | _ :: v :: _ => if v.2 = -1 then none else some R
    | _ => none)
  | .aaload => (match st with
    | _ :: v :: _ => if v.2 = -1 then none else some R
    | _ => none)
  | _ => some R
def y_ev : Nat → Nat → z_D → Nat → List z_V → List z_V → z_L → y_T → Option (Option z_V × z_L × y_T)
  | 0, _, _, _, _, _, _, _ => none
  | n + 1, d, μ, pc, ls, st, L, R => match z_at μ pc with
    | none => none
    | some c => match z_ret μ.2.2.2.1 c st with
      | some r => some (r, L, R)
      | none => if z_isc c = true then (match d with
          | 0 => none
          | d' + 1 => match z_ms[c.2.2.1]? with
            | none => none
            | some ν => match z_args L ν st with
              | none => none
              | some ar => match y_ev n d' ν 0 (z_ent ν ar.1) [] L R with
                | none => none
                | some o => y_ev n (d' + 1) μ (pc + c.2.1) ls (z_ol o.1 ++ ar.2) o.2.1 o.2.2)
        else match z_step [] c pc ls st L (y_of R) with
          | none => none
          | some s => match y_nxt c st R with
            | none => none
            | some T => y_ev n d μ s.1 s.2.1 s.2.2.1 s.2.2.2.1 T
section
variable {xs : List Int} {c : z_C} {pc : Nat} {ls st : List z_V} {L : z_L} {M : z_M} {S : z_S} {R T : y_T}
theorem y_psh {v : Option z_V} (h : z_psh c pc ls st L M v = some S) : S.2.2.2.1 = L ∧ S.2.2.2.2 = M := by
  unfold z_psh at h
  split at h
  · cases h
    exact ⟨rfl, rfl⟩
  · cases h
theorem y_stk {v : Option (List z_V)} (h : z_stk c pc ls v L M = some S) : S.2.2.2.1 = L ∧ S.2.2.2.2 = M := by
  unfold z_stk at h
  split at h
  · cases h
    exact ⟨rfl, rfl⟩
  · cases h
theorem y_pop {t k : Nat} (h : z_pop t c pc ls st L M k = some S) : S.2.2.2.1 = L ∧ S.2.2.2.2 = M := by
  unfold z_pop at h
  split at h
  · by_cases h0 : (‹z_V› : z_V).1 = t
    · rw [if_pos h0] at h
      generalize (if t = 1 then z_st2 ls k _ else z_st ls k _) = w at h
      cases w with
      | none => cases h
      | some w =>
        cases h
        exact ⟨rfl, rfl⟩
    · rw [if_neg h0] at h
      cases h
  · cases h
theorem y_inc {k : Nat} {n : Int} (h : z_inc c pc ls st L M k n = some S) : S.2.2.2.1 = L ∧ S.2.2.2.2 = M := by
  unfold z_inc at h
  split at h
  · split at h
    · cases h
      exact ⟨rfl, rfl⟩
    · cases h
  · cases h
theorem y_if2 {k : Jvm.ClassFile.Cond} {off : Int} (h : z_if2 c pc ls st L M k off = some S) : S.2.2.2.1 = L ∧ S.2.2.2.2 = M := by
  unfold z_if2 at h
  split at h
  · rename_i y x r
    by_cases h0 : y.1 = 0 ∧ x.1 = 0
    · rw [if_pos h0] at h
      cases h
      exact ⟨rfl, rfl⟩
    · rw [if_neg h0] at h
      cases h
  · cases h
theorem y_if1 {k : Jvm.ClassFile.Cond} {off : Int} (h : z_if1 c pc ls st L M k off = some S) : S.2.2.2.1 = L ∧ S.2.2.2.2 = M := by
  unfold z_if1 at h
  split at h
  · rename_i x r
    by_cases h0 : x.1 = 0
    · rw [if_pos h0] at h
      cases h
      exact ⟨rfl, rfl⟩
    · rw [if_neg h0] at h
      cases h
  · cases h
theorem y_sw {f : Int → Int} (h : z_sw pc ls st L M f = some S) : S.2.2.2.1 = L ∧ S.2.2.2.2 = M := by
  unfold z_sw at h
  split at h
  · rename_i x r
    by_cases h0 : x.1 = 0
    · rw [if_pos h0] at h
      cases h
      exact ⟨rfl, rfl⟩
    · rw [if_neg h0] at h
      cases h
  · cases h
theorem y_mem {w : Option (List z_V × z_M)} (h : z_mem c pc ls w L = some S) : S.2.2.2.1 = L ∧ ∃ r, w = some (r, S.2.2.2.2) := by
  unfold z_mem at h
  split at h
  · cases h
    exact ⟨rfl, _, rfl⟩
  · cases h
theorem y_as {t : Nat} {ok : Nat → Bool} {f : Nat → Int → Int} {r : List z_V} {M' : z_M} (h : z_as L M t ok f st = some (r, M')) : ∃ x i v q, ∃ k : Nat, st = x :: i :: v :: q ∧ M' = z_up M v.2 i.2 (f k x.2) := by
  unfold z_as at h
  split at h
  · rename_i x i v q
    by_cases h0 : x.1 = t ∧ i.1 = 0 ∧ v.1 = 2
    · rw [if_pos h0] at h
      cases hl : z_lay L v.2 with
      | none => rw [hl] at h; cases h
      | some e =>
        rw [hl] at h
        dsimp only at h
        split at h
        · cases h
          exact ⟨x, i, v, _, e.1, rfl, rfl⟩
        · cases h
    · rw [if_neg h0] at h
      cases h
  · cases h
theorem y_aas {r : List z_V} {M' : z_M} (h : z_aas L M st = some (r, M')) : ∃ x i v q, st = x :: i :: v :: q ∧ M' = z_up M v.2 i.2 x.2 := by
  unfold z_aas at h
  split at h
  · rename_i x i v q
    by_cases h0 : x.1 = 2 ∧ i.1 = 0 ∧ v.1 = 2
    · rw [if_pos h0] at h
      cases hl : z_lay L v.2 with
      | none => rw [hl] at h; cases h
      | some e =>
        cases hl2 : z_lay L x.2 with
        | none => rw [hl, hl2] at h; cases h
        | some g =>
          rw [hl, hl2] at h
          dsimp only at h
          split at h
          · cases h
            exact ⟨x, i, v, _, rfl, rfl⟩
          · cases h
    · rw [if_neg h0] at h
      cases h
  · cases h
theorem y_pf {ci k : Nat} {r : List z_V} {M' : z_M} (h : z_pf L M ci k st = some (r, M')) : ∃ x v q, st = x :: v :: q ∧ M' = z_up M v.2 k x.2 := by
  unfold z_pf at h
  split at h
  · rename_i x v q
    split at h
    · cases hl : z_lay L v.2 with
      | none => rw [hl] at h; cases h
      | some e =>
        rw [hl] at h
        dsimp only at h
        split at h
        · cases h
          exact ⟨x, v, _, rfl, rfl⟩
        · cases h
    · cases h
  · cases h
theorem y_nat {a : Nat} {r : List z_V} {M' : z_M} (h : z_nat L M a st = some (r, M')) (ha : a ≠ 2004) : M' = M := by
  unfold z_nat at h
  split at h
  · cases h
  · split at h
    · split at h
      · split at h
        · cases h
          rfl
        · cases h
      · cases h
    · split at h
      · split at h
        · cases h
          rfl
        · cases h
      · split at h
        · split at h
          · cases h
            rfl
          · cases h
        · split at h
          · split at h
            · cases h
              rfl
            · cases h
          · cases h
theorem y_nat4 {r : List z_V} {M' : z_M} (h : z_nat L M 2004 st = some (r, M')) : ∃ n d q1 s q0 w, st = n :: d :: q1 :: s :: q0 :: w ∧ M' = z_cpy M q0.2 s.2 q1.2 d.2 n.2 := by
  unfold z_nat at h
  by_cases h0 : 16 < z_cat st
  · rw [if_pos h0] at h
    cases h
  · rw [if_neg h0, if_neg (by decide), if_neg (by decide), if_neg (by decide), if_neg (by decide), if_pos rfl] at h
    split at h
    · rename_i n d q1 s q0 w
      split at h
      · split at h
        · split at h
          · cases h
            exact ⟨n, d, q1, s, q0, _, rfl, rfl⟩
          · cases h
        · cases h
      · cases h
    · cases h
theorem y_nwa {k : Option Nat} (h : z_nwa c pc ls st L M k = some S) : ∃ n r kk, st = n :: r ∧ S.2.2.2.1 = L ++ [(kk, n.2.toNat)] ∧ S.2.2.2.2 = z_clr M ((L.length : Int) + 1) := by
  unfold z_nwa at h
  split at h
  · rename_i n r kk
    split at h
    · cases h
      exact ⟨n, r, kk, rfl, rfl, rfl⟩
    · cases h
  · cases h
theorem y_al {t : Nat} {ok : Nat → Bool} {i v : z_V} {r : List z_V} (hv : ¬ v.2 = -1) : z_al xs L M t ok (i :: v :: r) = z_al [] L M t ok (i :: v :: r) := by
  have : z_xt xs v.2 = z_xt [] v.2 := by
    unfold z_xt
    rw [if_neg hv, if_neg hv]
  unfold z_al
  dsimp only
  rw [this]
theorem y_len {v : z_V} {r : List z_V} (hv : ¬ v.2 = -1) : z_len xs L (v :: r) = z_len [] L (v :: r) := by
  have : z_xt xs v.2 = z_xt [] v.2 := by
    unfold z_xt
    rw [if_neg hv, if_neg hv]
  unfold z_len
  dsimp only
  rw [this]
theorem y_n1 {R T : y_T} (h : (match st with
    | v :: _ => if v.2 = -1 then none else some R
    | _ => none) = some T) : ∃ v r, st = v :: r ∧ ¬ v.2 = -1 ∧ R = T := by
  split at h
  · rename_i v r
    by_cases e : v.2 = -1
    · rw [if_pos e] at h
      cases h
    · rw [if_neg e] at h
      cases h
      exact ⟨v, r, rfl, e, rfl⟩
  · cases h
theorem y_n2 {R T : y_T} (h : (match st with
    | _ :: v :: _ => if v.2 = -1 then none else some R
    | _ => none) = some T) : ∃ i v r, st = i :: v :: r ∧ ¬ v.2 = -1 ∧ R = T := by
  split at h
  · rename_i i v r
    by_cases e : v.2 = -1
    · rw [if_pos e] at h
      cases h
    · rw [if_neg e] at h
      cases h
      exact ⟨i, v, r, rfl, e, rfl⟩
  · cases h
/-- what a step does to rows -/
def y_ok (c : z_C) (pc : Nat) (ls st : List z_V) (L : z_L) (R T : y_T) (S : z_S) : Prop := S.2.2.2.2 = y_of T ∧ S.2.2.2.1.length = T.length ∧ ∀ xs, z_step xs c pc ls st L (y_of R) = some S
theorem y_g1 (h : S.2.2.2.1 = L ∧ S.2.2.2.2 = y_of R) (hn : some R = some T) (hL : L.length = R.length) (k : ∀ xs, z_step xs c pc ls st L (y_of R) = some S) : y_ok c pc ls st L R T S := by
  cases hn
  exact ⟨h.2, by rw [h.1, hL], k⟩
theorem y_g2 {q i v : Int} (h : S.2.2.2.1 = L) (h2 : S.2.2.2.2 = z_up (y_of R) q i v) (hn : y_wr R q i v = some T) (hL : L.length = R.length) (k : ∀ xs, z_step xs c pc ls st L (y_of R) = some S) : y_ok c pc ls st L R T S := by
  obtain ⟨w1, w2⟩ := y_wr_s hn
  exact ⟨by rw [h2, w1], by rw [h, hL, w2], k⟩
theorem y_g3 {n : Nat} {kk : Nat} (h : S.2.2.2.1 = L ++ [(kk, n)]) (h2 : S.2.2.2.2 = z_clr (y_of R) ((L.length : Int) + 1)) (hn : some (R ++ [List.replicate n 0]) = some T) (hL : L.length = R.length) (k : ∀ xs, z_step xs c pc ls st L (y_of R) = some S) : y_ok c pc ls st L R T S := by
  cases hn
  exact ⟨by rw [h2, y_new, hL], by rw [h, List.length_append, List.length_append, hL]; rfl, k⟩
theorem y_stp (h : z_step [] c pc ls st L (y_of R) = some S) (hn : y_nxt c st R = some T) (hL : L.length = R.length) : y_ok c pc ls st L R T S := by
  obtain ⟨op, len, a, b⟩ := c
  cases op
  case putfield =>
    obtain ⟨h1, r, h2⟩ := y_mem h
    obtain ⟨x, v, q, rfl, h3⟩ := y_pf h2
    exact y_g2 h1 h3 hn hL (fun _ => h)
  case iastore =>
    obtain ⟨h1, r, h2⟩ := y_mem h
    obtain ⟨x, i, v, q, k, rfl, h3⟩ := y_as h2
    exact y_g2 h1 h3 hn hL (fun _ => h)
  case lastore =>
    obtain ⟨h1, r, h2⟩ := y_mem h
    obtain ⟨x, i, v, q, k, rfl, h3⟩ := y_as h2
    exact y_g2 h1 h3 hn hL (fun _ => h)
  case aastore =>
    obtain ⟨h1, r, h2⟩ := y_mem h
    obtain ⟨x, i, v, q, rfl, h3⟩ := y_aas h2
    exact y_g2 h1 h3 hn hL (fun _ => h)
  case bastore => cases hn
  case new =>
    cases h
    exact y_g3 rfl rfl hn hL (fun _ => rfl)
  case newarray =>
    obtain ⟨n, r, kk, rfl, h1, h2⟩ := y_nwa h
    exact y_g3 h1 h2 hn hL (fun _ => h)
  case anewarray =>
    obtain ⟨n, r, kk, rfl, h1, h2⟩ := y_nwa h
    exact y_g3 h1 h2 hn hL (fun _ => h)
  case invokespecial =>
    obtain ⟨h1, r, h2⟩ := y_mem h
    have hn : (if a = 2004 then none else some R) = some T := hn
    by_cases e : a = 2004
    · rw [if_pos e] at hn
      cases hn
    · rw [if_neg e] at hn
      exact y_g1 ⟨h1, y_nat h2 e⟩ hn hL (fun _ => h)
  case invokestatic idx =>
    obtain ⟨h1, r, h2⟩ := y_mem h
    by_cases e : a = 2004
    · subst e
      obtain ⟨n, d, q1, s, q0, w, rfl, h3⟩ := y_nat4 h2
      have hn : y_cp R q0.2 s.2 q1.2 d.2 n.2 = some T := hn
      obtain ⟨w1, w2⟩ := y_cp_s hn
      exact ⟨by rw [h3, w1], by rw [h1, hL, w2], fun _ => h⟩
    · have hk : ∀ xs, z_step xs (.invokestatic idx, len, a, b) pc ls st L (y_of R) = some S := fun _ => h
      have hn2 : some R = some T := by
        unfold y_nxt at hn
        dsimp only at hn
        rw [if_neg e] at hn
        exact hn
      exact y_g1 ⟨h1, y_nat h2 e⟩ hn2 hL hk
  case arraylength =>
    obtain ⟨v, r, rfl, e, rfl⟩ := y_n1 hn
    refine y_g1 (y_stk h) rfl hL (fun xs => ?_)
    rw [← h]
    show z_stk _ pc ls (z_len xs L (v :: r)) L _ = z_stk _ pc ls (z_len [] L (v :: r)) L _
    rw [y_len e]
  case iaload =>
    obtain ⟨i, v, r, rfl, e, rfl⟩ := y_n2 hn
    refine y_g1 (y_stk h) rfl hL (fun xs => ?_)
    rw [← h]
    show z_stk _ pc ls (z_al xs L _ _ _ (i :: v :: r)) L _ = z_stk _ pc ls (z_al [] L _ _ _ (i :: v :: r)) L _
    rw [y_al e]
  case laload =>
    obtain ⟨i, v, r, rfl, e, rfl⟩ := y_n2 hn
    refine y_g1 (y_stk h) rfl hL (fun xs => ?_)
    rw [← h]
    show z_stk _ pc ls (z_al xs L _ _ _ (i :: v :: r)) L _ = z_stk _ pc ls (z_al [] L _ _ _ (i :: v :: r)) L _
    rw [y_al e]
  case baload =>
    obtain ⟨i, v, r, rfl, e, rfl⟩ := y_n2 hn
    refine y_g1 (y_stk h) rfl hL (fun xs => ?_)
    rw [← h]
    show z_stk _ pc ls (z_al xs L _ _ _ (i :: v :: r)) L _ = z_stk _ pc ls (z_al [] L _ _ _ (i :: v :: r)) L _
    rw [y_al e]
  case aaload =>
    obtain ⟨i, v, r, rfl, e, rfl⟩ := y_n2 hn
    refine y_g1 (y_stk h) rfl hL (fun xs => ?_)
    rw [← h]
    show z_stk _ pc ls (z_al xs L _ _ _ (i :: v :: r)) L _ = z_stk _ pc ls (z_al [] L _ _ _ (i :: v :: r)) L _
    rw [y_al e]
  case getstatic idx =>
    have hk : ∀ xs, z_step xs (.getstatic idx, len, a, b) pc ls st L (y_of R) = some S := fun _ => h
    have h : (if a = 1 then z_psh _ pc ls st L (y_of R) (some (0, 1)) else if a = 2 then z_psh _ pc ls st L (y_of R) (some (2, -6)) else none) = some S := h
    split at h
    · exact y_g1 (y_psh h) hn hL hk
    · split at h
      · exact y_g1 (y_psh h) hn hL hk
      · cases h
  case goto =>
    cases h
    exact y_g1 ⟨rfl, rfl⟩ hn hL (fun _ => rfl)
  all_goals first
    | exact absurd (show (none : Option z_S) = some S from h) (by simp)
    | exact y_g1 (y_psh h) hn hL (fun _ => h)
    | exact y_g1 (y_stk h) hn hL (fun _ => h)
    | exact y_g1 (y_pop h) hn hL (fun _ => h)
    | exact y_g1 (y_inc h) hn hL (fun _ => h)
    | exact y_g1 (y_if1 h) hn hL (fun _ => h)
    | exact y_g1 (y_if2 h) hn hL (fun _ => h)
    | exact y_g1 (y_sw h) hn hL (fun _ => h)
    | (cases h; exact y_g1 ⟨rfl, rfl⟩ hn hL (fun _ => rfl))
end
theorem y_evs (xs : List Int) : ∀ (n d : Nat) (μ : z_D) (pc : Nat) (ls st : List z_V) (L : z_L) (R : y_T) (r : Option z_V) (L' : z_L) (R' : y_T), L.length = R.length → y_ev n d μ pc ls st L R = some (r, L', R') → z_ev xs n d μ pc ls st L (y_of R) = some (r, L', y_of R') ∧ L'.length = R'.length := by
  intro n
  induction n with
  | zero =>
    intro d μ pc ls st L R r L' R' hL h
    cases h
  | succ n ih =>
    intro d μ pc ls st L R r L' R' hL h
    unfold y_ev at h
    unfold z_ev
    cases hat : z_at μ pc with
    | none => rw [hat] at h; cases h
    | some c =>
      rw [hat] at h
      dsimp only at h ⊢
      cases hr : z_ret μ.2.2.2.1 c st with
      | some q =>
        rw [hr] at h
        dsimp only at h ⊢
        cases h
        exact ⟨rfl, hL⟩
      | none =>
        rw [hr] at h
        dsimp only at h ⊢
        by_cases hc : z_isc c = true
        · rw [if_pos hc] at h ⊢
          cases d with
          | zero => cases h
          | succ d =>
            dsimp only at h ⊢
            cases hν : z_ms[c.2.2.1]? with
            | none => rw [hν] at h; cases h
            | some ν =>
              rw [hν] at h
              dsimp only at h ⊢
              cases har : z_args L ν st with
              | none => rw [har] at h; cases h
              | some ar =>
                rw [har] at h
                dsimp only at h ⊢
                cases ho : y_ev n d ν 0 (z_ent ν ar.1) [] L R with
                | none => rw [ho] at h; cases h
                | some o =>
                  rw [ho] at h
                  dsimp only at h ⊢
                  obtain ⟨o1, o2, o3⟩ := o
                  obtain ⟨k1, k2⟩ := ih d ν 0 _ [] L R o1 o2 o3 hL ho
                  rw [k1]
                  exact ih (d + 1) μ _ ls _ o2 o3 r L' R' k2 h
        · rw [if_neg hc] at h ⊢
          cases hs : z_step [] c pc ls st L (y_of R) with
          | none => rw [hs] at h; cases h
          | some S =>
            rw [hs] at h
            dsimp only at h
            cases hT : y_nxt c st R with
            | none => rw [hT] at h; cases h
            | some T =>
              rw [hT] at h
              dsimp only at h
              obtain ⟨k1, k2, k3⟩ := y_stp hs hT hL
              rw [k3 xs]
              dsimp only
              rw [k1]
              exact ih d μ _ _ _ _ T r L' R' k2 h
theorem y_wp {xs : List Int} {n d : Nat} {μ : z_D} {ls : List z_V} {L : z_L} {R : y_T} {r : Option z_V} {L' : z_L} {R' : y_T} {P : Option z_V → z_L → z_M → Prop} (hL : L.length = R.length) (h : y_ev n d μ 0 ls [] L R = some (r, L', R')) (k : P r L' (y_of R')) : wp xs d μ 0 ls [] L (y_of R) P := ⟨n, r, L', y_of R', (y_evs xs n d μ 0 ls [] L R r L' R' hL h).1, k⟩
/-- run on to the place e -/
def y_to (e : Nat) : Nat → Nat → z_D → Nat → List z_V → List z_V → z_L → y_T → Option (List z_V × List z_V × z_L × y_T)
  | 0, _, _, _, _, _, _, _ => none
  | n + 1, d, μ, pc, ls, st, L, R => if pc = e then some (ls, st, L, R) else match z_at μ pc with
    | none => none
    | some c => if z_isc c = true then (match d with
          | 0 => none
          | d' + 1 => match z_ms[c.2.2.1]? with
            | none => none
            | some ν => match z_args L ν st with
              | none => none
              | some ar => match y_ev n d' ν 0 (z_ent ν ar.1) [] L R with
                | none => none
                | some o => y_to e n (d' + 1) μ (pc + c.2.1) ls (z_ol o.1 ++ ar.2) o.2.1 o.2.2)
        else match z_step [] c pc ls st L (y_of R) with
          | none => none
          | some s => match y_nxt c st R with
            | none => none
            | some T => y_to e n d μ s.1 s.2.1 s.2.2.1 s.2.2.2.1 T
theorem y_tos {xs : List Int} {P : Option z_V → z_L → z_M → Prop} (e : Nat) : ∀ (n d : Nat) (μ : z_D) (pc : Nat) (ls st : List z_V) (L : z_L) (R : y_T) (ls' st' : List z_V) (L' : z_L) (R' : y_T), L.length = R.length → y_to e n d μ pc ls st L R = some (ls', st', L', R') → (L'.length = R'.length → wp xs d μ e ls' st' L' (y_of R') P) → wp xs d μ pc ls st L (y_of R) P := by
  intro n
  induction n with
  | zero =>
    intro d μ pc ls st L R ls' st' L' R' hL h
    cases h
  | succ n ih =>
    intro d μ pc ls st L R ls' st' L' R' hL h k
    unfold y_to at h
    by_cases he : pc = e
    · rw [if_pos he] at h
      cases h
      rw [he]
      exact k hL
    · rw [if_neg he] at h
      cases hat : z_at μ pc with
      | none => rw [hat] at h; cases h
      | some c =>
        rw [hat] at h
        dsimp only at h
        by_cases hc : z_isc c = true
        · rw [if_pos hc] at h
          cases d with
          | zero => cases h
          | succ d =>
            dsimp only at h
            cases hν : z_ms[c.2.2.1]? with
            | none => rw [hν] at h; cases h
            | some ν =>
              rw [hν] at h
              dsimp only at h
              cases har : z_args L ν st with
              | none => rw [har] at h; cases h
              | some ar =>
                rw [har] at h
                dsimp only at h
                cases ho : y_ev n d ν 0 (z_ent ν ar.1) [] L R with
                | none => rw [ho] at h; cases h
                | some o =>
                  rw [ho] at h
                  dsimp only at h
                  obtain ⟨o1, o2, o3⟩ := o
                  obtain ⟨k1, k2⟩ := y_evs xs n d ν 0 _ [] L R o1 o2 o3 hL ho
                  refine wp_callv hat rfl hc hν har rfl ?_
                  exact ⟨n, o1, o2, _, k1, ih (d + 1) μ _ ls _ o2 o3 ls' st' L' R' k2 h k⟩
        · rw [if_neg hc] at h
          cases hs : z_step [] c pc ls st L (y_of R) with
          | none => rw [hs] at h; cases h
          | some S =>
            rw [hs] at h
            dsimp only at h
            cases hT : y_nxt c st R with
            | none => rw [hT] at h; cases h
            | some T =>
              rw [hT] at h
              dsimp only at h
              obtain ⟨k1, k2, k3⟩ := y_stp hs hT hL
              refine wp_one hat (k3 xs) ?_
              rw [k1]
              exact ih d μ _ _ _ _ T ls' st' L' R' k2 h k
def y_is (x : Option (List z_V × List z_V × z_L × y_T)) (ls st : List z_V) (L : z_L) (R : y_T) : Bool := match x with
  | some o => decide (o.1 = ls) && decide (o.2.1 = st) && decide (o.2.2.1 = L) && decide (o.2.2.2 = R)
  | none => false
theorem y_ist {x : Option (List z_V × List z_V × z_L × y_T)} {ls st : List z_V} {L : z_L} {R : y_T} (h : y_is x ls st L R = true) : x = some (ls, st, L, R) := by
  unfold y_is at h
  split at h
  · rename_i o
    obtain ⟨o1, o2, o3, o4⟩ := o
    simp only [Bool.and_eq_true, decide_eq_true_eq] at h
    obtain ⟨⟨⟨h1, h2⟩, h3⟩, h4⟩ := h
    rw [h1, h2, h3, h4]
  · cases h
