/-! RULES: an instruction whose answer hangs on what memory holds -/
def z_goN (xs : List Int) (μ : z_D) : Nat → z_S → Option z_S
  | 0, S => some S
  | k + 1, S => match z_go xs μ S.1 S.2.1 S.2.2.1 S.2.2.2.1 S.2.2.2.2 with
    | some T => z_goN xs μ k T
    | none => none
def z_abs (x : Int) : Int := if x < 0 then z_w (-x) else x
def z_max (x y : Int) : Int := if x < y then y else x
def z_min (x y : Int) : Int := if y < x then y else x
section
variable {xs : List Int} {d : Nat} {μ : z_D} {pc pc' : Nat} {ls st : List z_V} {L : z_L} {M : z_M} {P : Option z_V → z_L → z_M → Prop}
theorem wp_run {ls' st' : List z_V} (k : Nat) (h : z_goN xs μ k (pc, ls, st, L, M) = some (pc', ls', st', L, M)) (kk : wp xs d μ pc' ls' st' L M P) : wp xs d μ pc ls st L M P := by
  have key : ∀ (k : Nat) (S T : z_S), z_goN xs μ k S = some T → wp xs d μ T.1 T.2.1 T.2.2.1 T.2.2.2.1 T.2.2.2.2 P → wp xs d μ S.1 S.2.1 S.2.2.1 S.2.2.2.1 S.2.2.2.2 P := by
    intro k
    induction k with
    | zero =>
      intro S T h w
      cases h
      exact w
    | succ k ih =>
      intro S T h w
      unfold z_goN at h
      cases hg : z_go xs μ S.1 S.2.1 S.2.2.1 S.2.2.2.1 S.2.2.2.2 with
      | none => rw [hg] at h; cases h
      | some U =>
        rw [hg] at h
        exact wp_st hg (ih U T h w)
  exact key k _ _ h kk
theorem wp_one {c : z_C} {S : z_S} (hat : z_at μ pc = some c) (h : z_step xs c pc ls st L M = some S) (kk : wp xs d μ S.1 S.2.1 S.2.2.1 S.2.2.2.1 S.2.2.2.2 P) : wp xs d μ pc ls st L M P := by
  refine wp_st (pc' := S.1) (ls' := S.2.1) (st' := S.2.2.1) (L' := S.2.2.2.1) (M' := S.2.2.2.2) ?_ kk
  unfold z_go
  rw [hat]
  exact h
theorem wp_gf {idx ci k n t : Nat} {q v : Int} {r : List z_V} (hat : z_at μ pc = some (.getfield idx, 3, ci, k)) (hp : pc + 3 = pc') (hc : ci ≠ 100) (ht : z_ft ci k = t) (hl : z_lay L q = some (ci + 5, n)) (hv : M q k = v) (kk : wp xs d μ pc' ls ((t, v) :: r) L M P) : wp xs d μ pc ls ((2, q) :: r) L M P := by
  subst hp; subst ht; subst hv
  refine wp_one (S := (pc + 3, ls, (z_ft ci k, M q k) :: r, L, M)) hat ?_ kk
  show z_stk _ pc ls (z_gf L M ci k ((2, q) :: r)) L M = _
  unfold z_gf
  dsimp only
  rw [if_pos rfl, if_neg hc, hl]
  dsimp only
  rw [if_pos rfl]
  rfl
theorem wp_pf {idx ci k n t : Nat} {q x : Int} {r : List z_V} (hat : z_at μ pc = some (.putfield idx, 3, ci, k)) (hp : pc + 3 = pc') (ht : z_ft ci k = t) (hl : z_lay L q = some (ci + 5, n)) (hn : t = 2 → 0 ≤ x) (hb : (z_fbt.getD ci []).getD k 0 = 1 → x = 0 ∨ x = 1) (kk : wp xs d μ pc' ls r L (z_up M q k x) P) : wp xs d μ pc ls ((t, x) :: (2, q) :: r) L M P := by
  subst hp; subst ht
  refine wp_one (S := (pc + 3, ls, r, L, z_up M q k x)) hat ?_ kk
  show z_mem _ pc ls (z_pf L M ci k ((z_ft ci k, x) :: (2, q) :: r)) L = _
  unfold z_pf
  dsimp only
  rw [if_pos ⟨⟨rfl, rfl⟩, hn, hb⟩, hl]
  dsimp only
  rw [if_pos rfl]
  rfl
theorem z_al_in {t kd n : Nat} {ok : Nat → Bool} {q i v : Int} {r : List z_V} (hl : z_lay L q = some (kd, n)) (hk : ok kd = true) (hi : 0 ≤ i ∧ i < n) (hv : M q i = v) : z_al xs L M t ok ((0, i) :: (2, q) :: r) = some ((t, v) :: r) := by
  subst hv
  have h0 := (z_lay_sp hl).1
  unfold z_al
  dsimp only
  rw [if_pos ⟨rfl, rfl⟩, if_neg (by omega), hl]
  dsimp only
  rw [if_pos ⟨hk, hi.1, hi.2⟩]
theorem wp_iald {n : Nat} {q i v : Int} {r : List z_V} (hat : z_at μ pc = some (.iaload, 1, 0, 0)) (hp : pc + 1 = pc') (hl : z_lay L q = some (0, n)) (hi : 0 ≤ i ∧ i < n) (hv : M q i = v) (kk : wp xs d μ pc' ls ((0, v) :: r) L M P) : wp xs d μ pc ls ((0, i) :: (2, q) :: r) L M P := by
  subst hp
  refine wp_one (S := (pc + 1, ls, (0, v) :: r, L, M)) hat ?_ kk
  show z_stk _ pc ls (z_al xs L M 0 (fun k => k == 0) _) L M = _
  rw [z_al_in hl rfl hi hv]
  rfl
theorem wp_lald {n : Nat} {q i v : Int} {r : List z_V} (hat : z_at μ pc = some (.laload, 1, 0, 0)) (hp : pc + 1 = pc') (hl : z_lay L q = some (1, n)) (hi : 0 ≤ i ∧ i < n) (hv : M q i = v) (kk : wp xs d μ pc' ls ((1, v) :: r) L M P) : wp xs d μ pc ls ((0, i) :: (2, q) :: r) L M P := by
  subst hp
  refine wp_one (S := (pc + 1, ls, (1, v) :: r, L, M)) hat ?_ kk
  show z_stk _ pc ls (z_al xs L M 1 (fun k => k == 1) _) L M = _
  rw [z_al_in hl rfl hi hv]
  rfl
theorem wp_bald {kd n : Nat} {q i v : Int} {r : List z_V} (hat : z_at μ pc = some (.baload, 1, 0, 0)) (hp : pc + 1 = pc') (hl : z_lay L q = some (kd, n)) (hk : (kd == 2 || kd == 3) = true) (hi : 0 ≤ i ∧ i < n) (hv : M q i = v) (kk : wp xs d μ pc' ls ((0, v) :: r) L M P) : wp xs d μ pc ls ((0, i) :: (2, q) :: r) L M P := by
  subst hp
  refine wp_one (S := (pc + 1, ls, (0, v) :: r, L, M)) hat ?_ kk
  show z_stk _ pc ls (z_al xs L M 0 (fun k => k == 2 || k == 3) _) L M = _
  rw [z_al_in hl hk hi hv]
  rfl
theorem wp_aald {n : Nat} {q i v : Int} {r : List z_V} (hat : z_at μ pc = some (.aaload, 1, 0, 0)) (hp : pc + 1 = pc') (hl : z_lay L q = some (4, n)) (hi : 0 ≤ i ∧ i < n) (hv : M q i = v) (kk : wp xs d μ pc' ls ((2, v) :: r) L M P) : wp xs d μ pc ls ((0, i) :: (2, q) :: r) L M P := by
  subst hp
  refine wp_one (S := (pc + 1, ls, (2, v) :: r, L, M)) hat ?_ kk
  show z_stk _ pc ls (z_al xs L M 2 (fun k => k == 4) _) L M = _
  rw [z_al_in hl rfl hi hv]
  rfl
theorem z_as_in {t kd n : Nat} {ok : Nat → Bool} {f : Nat → Int → Int} {q i x : Int} {r : List z_V} (hl : z_lay L q = some (kd, n)) (hk : ok kd = true) (hi : 0 ≤ i ∧ i < n) : z_as L M t ok f ((t, x) :: (0, i) :: (2, q) :: r) = some (r, z_up M q i (f kd x)) := by
  unfold z_as
  dsimp only
  rw [if_pos ⟨rfl, rfl, rfl⟩, hl]
  dsimp only
  rw [if_pos ⟨hk, hi.1, hi.2⟩]
theorem wp_iast {n : Nat} {q i x : Int} {r : List z_V} (hat : z_at μ pc = some (.iastore, 1, 0, 0)) (hp : pc + 1 = pc') (hl : z_lay L q = some (0, n)) (hi : 0 ≤ i ∧ i < n) (kk : wp xs d μ pc' ls r L (z_up M q i x) P) : wp xs d μ pc ls ((0, x) :: (0, i) :: (2, q) :: r) L M P := by
  subst hp
  refine wp_one (S := (pc + 1, ls, r, L, z_up M q i x)) hat ?_ kk
  show z_mem _ pc ls (z_as L M 0 (fun k => k == 0) (fun _ x => x) _) L = _
  rw [z_as_in hl rfl hi]
  rfl
theorem wp_last {n : Nat} {q i x : Int} {r : List z_V} (hat : z_at μ pc = some (.lastore, 1, 0, 0)) (hp : pc + 1 = pc') (hl : z_lay L q = some (1, n)) (hi : 0 ≤ i ∧ i < n) (kk : wp xs d μ pc' ls r L (z_up M q i x) P) : wp xs d μ pc ls ((1, x) :: (0, i) :: (2, q) :: r) L M P := by
  subst hp
  refine wp_one (S := (pc + 1, ls, r, L, z_up M q i x)) hat ?_ kk
  show z_mem _ pc ls (z_as L M 1 (fun k => k == 1) (fun _ x => x) _) L = _
  rw [z_as_in hl rfl hi]
  rfl
theorem wp_bast {kd n : Nat} {q i x : Int} {r : List z_V} (hat : z_at μ pc = some (.bastore, 1, 0, 0)) (hp : pc + 1 = pc') (hl : z_lay L q = some (kd, n)) (hk : (kd == 2 || kd == 3) = true) (hi : 0 ≤ i ∧ i < n) (kk : wp xs d μ pc' ls r L (z_up M q i (if kd = 2 then z_i2b x else z_and x 1)) P) : wp xs d μ pc ls ((0, x) :: (0, i) :: (2, q) :: r) L M P := by
  subst hp
  refine wp_one (S := (pc + 1, ls, r, L, z_up M q i (if kd = 2 then z_i2b x else z_and x 1))) hat ?_ kk
  show z_mem _ pc ls (z_as L M 0 (fun k => k == 2 || k == 3) (fun k x => if k = 2 then z_i2b x else z_and x 1) _) L = _
  rw [z_as_in hl hk hi]
  rfl
theorem wp_aast {n k : Nat} {q i x : Int} {r : List z_V} (hat : z_at μ pc = some (.aastore, 1, 0, 0)) (hp : pc + 1 = pc') (hl : z_lay L q = some (4, n)) (hx : z_lay L x = some (7, k)) (hi : 0 ≤ i ∧ i < n) (kk : wp xs d μ pc' ls r L (z_up M q i x) P) : wp xs d μ pc ls ((2, x) :: (0, i) :: (2, q) :: r) L M P := by
  subst hp
  refine wp_one (S := (pc + 1, ls, r, L, z_up M q i x)) hat ?_ kk
  show z_mem _ pc ls (z_aas L M _) L = _
  unfold z_aas
  dsimp only
  rw [if_pos ⟨rfl, rfl, rfl⟩, hl, hx]
  dsimp only
  rw [if_pos ⟨⟨rfl, rfl⟩, hi.1, hi.2⟩]
  rfl
theorem wp_len {kd n : Nat} {q : Int} {r : List z_V} (hat : z_at μ pc = some (.arraylength, 1, 0, 0)) (hp : pc + 1 = pc') (hl : z_lay L q = some (kd, n)) (hk : kd < 5) (kk : wp xs d μ pc' ls ((0, (n : Int)) :: r) L M P) : wp xs d μ pc ls ((2, q) :: r) L M P := by
  subst hp
  have h0 := (z_lay_sp hl).1
  refine wp_one (S := (pc + 1, ls, (0, (n : Int)) :: r, L, M)) hat ?_ kk
  show z_stk _ pc ls (z_len xs L _) L M = _
  unfold z_len
  dsimp only
  rw [if_pos rfl, if_neg (by omega), hl]
  dsimp only
  rw [if_pos hk]
  rfl
theorem z_cnb_t {k : Jvm.ClassFile.Cond} {x y : Int} : z_cnb k x y = true ↔ z_cnd k x y := by
  cases k <;> simp [z_cnb, z_cnd]
theorem wp_if2 {k : Jvm.ClassFile.Cond} {off x y : Int} {pt : Nat} {r : List z_V} (hat : z_at μ pc = some (.if_icmp k off, 3, 0, 0)) (hp : pc + 3 = pc') (ht : z_tg pc off = pt) (kt : z_cnd k x y → wp xs d μ pt ls r L M P) (kf : ¬ z_cnd k x y → wp xs d μ pc' ls r L M P) : wp xs d μ pc ls ((0, y) :: (0, x) :: r) L M P := by
  subst hp; subst ht
  refine wp_one (S := (if z_cnb k x y then z_tg pc off else pc + 3, ls, r, L, M)) hat rfl ?_
  by_cases h : z_cnd k x y
  · rw [if_pos (z_cnb_t.mpr h)]
    exact kt h
  · rw [if_neg (fun q => h (z_cnb_t.mp q))]
    exact kf h
theorem wp_if1 {k : Jvm.ClassFile.Cond} {off x : Int} {pt : Nat} {r : List z_V} (hat : z_at μ pc = some (.ifCond k off, 3, 0, 0)) (hp : pc + 3 = pc') (ht : z_tg pc off = pt) (kt : z_cnd k x 0 → wp xs d μ pt ls r L M P) (kf : ¬ z_cnd k x 0 → wp xs d μ pc' ls r L M P) : wp xs d μ pc ls ((0, x) :: r) L M P := by
  subst hp; subst ht
  refine wp_one (S := (if z_cnb k x 0 then z_tg pc off else pc + 3, ls, r, L, M)) hat rfl ?_
  by_cases h : z_cnd k x 0
  · rw [if_pos (z_cnb_t.mpr h)]
    exact kt h
  · rw [if_neg (fun q => h (z_cnb_t.mp q))]
    exact kf h
theorem wp_cast {t : Nat} {x y : Int} {r : List z_V} (h : x = y) (kk : wp xs d μ pc ls ((t, y) :: r) L M P) : wp xs d μ pc ls ((t, x) :: r) L M P := by
  subst h
  exact kk
theorem wp_swd {dd lo hi x : Int} {os : Array Int} {len : Nat} {r : List z_V} (hat : z_at μ pc = some (.tableswitch dd lo hi os, len, 0, 0)) (hp : z_tg pc dd = pc') (h : x < lo ∨ hi < x) (kk : wp xs d μ pc' ls r L M P) : wp xs d μ pc ls ((0, x) :: r) L M P := by
  subst hp
  refine wp_one (S := (z_tg pc dd, ls, r, L, M)) hat ?_ kk
  show z_sw pc ls ((0, x) :: r) L M (z_tsw lo hi dd os) = some (z_tg pc dd, ls, r, L, M)
  unfold z_sw z_tsw
  dsimp only
  rw [if_pos rfl, if_pos h]
theorem wp_lsd {dd x : Int} {ps : Array (Int × Int)} {len : Nat} {r : List z_V} (hat : z_at μ pc = some (.lookupswitch dd ps, len, 0, 0)) (hp : z_tg pc dd = pc') (h : z_lsw dd ps.toList x = dd) (kk : wp xs d μ pc' ls r L M P) : wp xs d μ pc ls ((0, x) :: r) L M P := by
  subst hp
  refine wp_one (S := (z_tg pc dd, ls, r, L, M)) hat ?_ kk
  show z_sw pc ls ((0, x) :: r) L M (z_lsw dd ps.toList) = some (z_tg pc dd, ls, r, L, M)
  unfold z_sw
  dsimp only
  rw [if_pos rfl, h]
theorem wp_div {x y : Int} {r : List z_V} (hat : z_at μ pc = some (.idiv, 1, 0, 0)) (hp : pc + 1 = pc') (h : ¬ y = 0) (kk : wp xs d μ pc' ls ((0, z_div x y) :: r) L M P) : wp xs d μ pc ls ((0, y) :: (0, x) :: r) L M P := by
  subst hp
  refine wp_one (S := (pc + 1, ls, (0, z_div x y) :: r, L, M)) hat ?_ kk
  show z_stk _ pc ls (z_dv _ _) L M = _
  unfold z_dv
  dsimp only
  rw [if_pos ⟨⟨rfl, rfl⟩, h⟩]
  rfl
theorem wp_rem {x y : Int} {r : List z_V} (hat : z_at μ pc = some (.irem, 1, 0, 0)) (hp : pc + 1 = pc') (h : ¬ y = 0) (kk : wp xs d μ pc' ls ((0, z_rem x y) :: r) L M P) : wp xs d μ pc ls ((0, y) :: (0, x) :: r) L M P := by
  subst hp
  refine wp_one (S := (pc + 1, ls, (0, z_rem x y) :: r, L, M)) hat ?_ kk
  show z_stk _ pc ls (z_dv _ _) L M = _
  unfold z_dv
  dsimp only
  rw [if_pos ⟨⟨rfl, rfl⟩, h⟩]
  rfl
theorem wp_acp {idx n0 n1 : Nat} {q0 s0 q1 s1 n : Int} (hat : z_at μ pc = some (.invokestatic idx, 3, 2004, 5)) (hp : pc + 3 = pc') (hl0 : z_lay L q0 = some (0, n0)) (hl1 : z_lay L q1 = some (0, n1)) (h : (0 ≤ n ∧ 0 ≤ s1 ∧ 0 ≤ s0) ∧ s0 + n ≤ n0 ∧ s1 + n ≤ n1) (kk : wp xs d μ pc' ls [] L (z_cpy M q0 s0 q1 s1 n) P) : wp xs d μ pc ls [(0, n), (0, s1), (2, q1), (0, s0), (2, q0)] L M P := by
  subst hp
  refine wp_one (S := (pc + 3, ls, [], L, z_cpy M q0 s0 q1 s1 n)) hat ?_ kk
  show z_mem _ pc ls (z_nat L M 2004 _) L = _
  unfold z_nat
  rw [if_neg (by simp [z_cat]), if_neg (by decide), if_neg (by decide), if_neg (by decide), if_neg (by decide), if_pos rfl]
  dsimp only
  rw [if_pos ⟨⟨rfl, rfl, rfl, rfl, rfl⟩, rfl⟩, hl0, hl1]
  dsimp only
  rw [if_pos ⟨⟨rfl, rfl⟩, h.1, h.2.1, h.2.2⟩]
  rfl
theorem wp_max {idx : Nat} {x y : Int} {r : List z_V} (hat : z_at μ pc = some (.invokestatic idx, 3, 2001, 2)) (hp : pc + 3 = pc') (hr : z_cat r ≤ 8) (kk : wp xs d μ pc' ls ((0, z_max x y) :: r) L M P) : wp xs d μ pc ls ((0, y) :: (0, x) :: r) L M P := by
  subst hp
  refine wp_one (S := (pc + 3, ls, (0, z_max x y) :: r, L, M)) hat ?_ kk
  show z_mem _ pc ls (z_nat L M 2001 ((0, y) :: (0, x) :: r)) L = _
  unfold z_nat
  have e1 : z_cat ((0, y) :: (0, x) :: r) = 2 + z_cat r := by simp [z_cat]; omega
  rw [if_neg (by rw [e1]; omega), if_neg (by decide), if_pos rfl]
  rfl
theorem wp_min {idx : Nat} {x y : Int} {r : List z_V} (hat : z_at μ pc = some (.invokestatic idx, 3, 2002, 2)) (hp : pc + 3 = pc') (hr : z_cat r ≤ 8) (kk : wp xs d μ pc' ls ((0, z_min x y) :: r) L M P) : wp xs d μ pc ls ((0, y) :: (0, x) :: r) L M P := by
  subst hp
  refine wp_one (S := (pc + 3, ls, (0, z_min x y) :: r, L, M)) hat ?_ kk
  show z_mem _ pc ls (z_nat L M 2002 ((0, y) :: (0, x) :: r)) L = _
  unfold z_nat
  have e1 : z_cat ((0, y) :: (0, x) :: r) = 2 + z_cat r := by simp [z_cat]; omega
  rw [if_neg (by rw [e1]; omega), if_neg (by decide), if_neg (by decide), if_pos rfl]
  rfl
theorem wp_abs {idx : Nat} {x : Int} {r : List z_V} (hat : z_at μ pc = some (.invokestatic idx, 3, 2003, 1)) (hp : pc + 3 = pc') (hr : z_cat r ≤ 8) (kk : wp xs d μ pc' ls ((0, z_abs x) :: r) L M P) : wp xs d μ pc ls ((0, x) :: r) L M P := by
  subst hp
  refine wp_one (S := (pc + 3, ls, (0, z_abs x) :: r, L, M)) hat ?_ kk
  show z_mem _ pc ls (z_nat L M 2003 ((0, x) :: r)) L = _
  unfold z_nat
  have e1 : z_cat ((0, x) :: r) = 1 + z_cat r := by simp [z_cat]
  rw [if_neg (by rw [e1]; omega), if_neg (by decide), if_neg (by decide), if_neg (by decide), if_pos rfl]
  rfl
theorem wp_retz {c : z_C} {x : Int} (hat : z_at μ pc = some c) (hc : c.1 = .ireturn) (hk : μ.2.2.2.1 = 4) (h : x = 0 ∨ x = 1) (k : P (some (0, x)) L M) : wp xs d μ pc ls [(0, x)] L M P := by
  refine wp_ret (r := some (0, x)) hat ?_ k
  obtain ⟨i, n, a, b⟩ := c
  dsimp only at hc
  subst hc
  rw [hk]
  rcases h with rfl | rfl <;> rfl
theorem z_args_v {ν : z_D} {st' as' rest : List z_V} {q : Int} {n rc k : Nat} (hn : ν.2.2.1.length = n) (h1 : (st'.take n).reverse = (2, q) :: as') (h2 : st'.drop n = rest) (h3 : (((2, q) :: as').map fun v => v.1) = ν.2.2.1) (h4 : z_cat rest ≤ 8) (h5 : ν.2.2.2.2.1 = rc) (hne : rc ≠ 200 ∧ rc ≠ 120) (hl : z_lay L q = some (rc + 5, k)) : z_args L ν st' = some ((2, q) :: as', rest) := by
  subst hn; subst h2; subst h5
  have hr : z_rcv L ν.2.2.2.2.1 ((2, q) :: as') = true := by
    unfold z_rcv
    rw [if_neg hne.1]
    dsimp only
    rw [if_neg hne.2, hl]
    simp
  unfold z_args
  dsimp only
  rw [h1, if_pos ⟨h3, h4, hr⟩]
theorem wp_callv {c : z_C} {ν : z_D} {as rest ls1 : List z_V} (hat : z_at μ pc = some c) (hp : pc + c.2.1 = pc') (hc : z_isc c = true) (hν : z_ms[c.2.2.1]? = some ν) (har : z_args L ν st = some (as, rest)) (he : z_ent ν as = ls1)
    (k : wp xs d ν 0 ls1 [] L M (fun r L1 M1 => wp xs (d + 1) μ pc' ls (z_ol r ++ rest) L1 M1 P)) : wp xs (d + 1) μ pc ls st L M P := by
  subst hp; subst he
  exact wp_call hat hc hν har k
end
theorem z_upq {M : z_M} {q i v a b x : Int} (h : ¬ a = q) (k : M a b = x) : z_up M q i v a b = x := by
  unfold z_up
  rw [if_neg (fun c => h c.1)]
  exact k
theorem z_upi {M : z_M} {q i v a b x : Int} (h : ¬ b = i) (k : M a b = x) : z_up M q i v a b = x := by
  unfold z_up
  rw [if_neg (fun c => h c.2)]
  exact k
theorem z_ups {M : z_M} {q i v : Int} : z_up M q i v q i = v := by
  unfold z_up
  rw [if_pos ⟨rfl, rfl⟩]
