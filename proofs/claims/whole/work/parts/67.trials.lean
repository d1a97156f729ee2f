/-! trials with salt -/
section
variable {M : z_M} {B : Int → Prop} {s t : Int → Int}
theorem z_lkn_e (h : z_eqs B s t) {n : Nat} (hn : n ≤ 6) : z_lkn M s n = z_lkn M t n := by
  funext c
  refine propext ⟨?_, ?_⟩
  · rintro ⟨f, hf, q⟩
    refine ⟨f, hf, ?_⟩
    unfold z_lkf at q ⊢
    rw [← z_eqs_o h (k := (f : Int)) (by omega), ← z_eqs_o h (k := 6 + (f : Int)) (by omega)]
    exact q
  · rintro ⟨f, hf, q⟩
    refine ⟨f, hf, ?_⟩
    unfold z_lkf at q ⊢
    rw [z_eqs_o h (k := (f : Int)) (by omega), z_eqs_o h (k := 6 + (f : Int)) (by omega)]
    exact q
theorem z_exi_c {due : Int} {days : Nat} {m m' : Nat → Int} {j : Nat} (h : m j = m' j) : z_exi due days m j ↔ z_exi due days m' j := by
  unfold z_exi
  rw [h]
/-- a day of a trial with salt on a set -/
noncomputable def z_tdy (M : z_M) (x : Int) : Nat → Int → Int := z_dys M (M 321 52) (z_sls (M 342) x 25)
def z_tgo (M : z_M) (k due : Int) (days : Nat) (x : Int) (j : Nat) : Prop := ∀ i : Nat, i ≤ j → ¬ z_exi due days (fun j => z_tdy M x j k) i
def z_tl (M : z_M) (k due : Int) (days : Nat) (x c : Int) : Prop := ∃ j : Nat, z_tgo M k due days x j ∧ z_lkn M (z_tdy M x j) (M 321 48).toNat c
def z_tv (M : z_M) (k due : Int) (days : Nat) (x : Int) : Prop := due ≤ z_tdy M x days k
theorem z_tdy_sn (hC : z_mc M) (hS : z_sn M 999 (M 342)) (x : Int) (j : Nat) : z_sn M (999 + j) (z_tdy M x j) := z_dys_sn hC (z_sn_sls (x := x) hC hS 25 (by omega)) j
theorem z_tdy_0 {x y c : Int} (hb : ∀ i : Int, 0 ≤ i → i < 25 → (z_bt y i ↔ z_bt x i ∨ i = c)) : z_eqs (fun i => i = c) (z_tdy M x 0) (z_tdy M y 0) := fun k hk => by
  show z_sls (M 342) x 25 k = z_sls (M 342) y 25 k
  unfold z_sls
  by_cases q : 79 ≤ k ∧ k < 79 + 25
  · have e : z_bt y (k - 79) ↔ z_bt x (k - 79) := by
      rw [hb _ (by omega) (by omega)]
      exact ⟨fun w => w.elim id (fun w => absurd ⟨q.1, by omega, w⟩ hk), Or.inl⟩
    rw [propext e]
  · rw [if_neg (fun w => q ⟨w.1, w.2.1⟩), if_neg (fun w => q ⟨w.1, w.2.1⟩)]
/-- salt on a cell that nobody looks at in a trial changes nothing of it -/
theorem z_trl {k due x y c : Int} {days : Nat} (hC : z_mc M) (hS : z_sn M 999 (M 342)) (hk : 18 ≤ k ∧ k < 54) (hb : ∀ i : Int, 0 ≤ i → i < 25 → (z_bt y i ↔ z_bt x i ∨ i = c)) (hl : ¬ z_tl M k due days x c) : z_tl M k due days y = z_tl M k due days x ∧ (z_tv M k due days y ↔ z_tv M k due days x) := by
  have hn := hC.2.2.1
  have main : ∀ j : Nat, (∀ i : Nat, i < j → ¬ z_exi due days (fun j => z_tdy M x j k) i) → z_eqs (fun i => i = c) (z_tdy M x j) (z_tdy M y j) := by
    intro j
    induction j with
    | zero => exact fun _ => z_tdy_0 hb
    | succ j ih =>
      intro h
      have hj := ih (fun i hi => h i (by omega))
      refine z_day_nl hC (z_tdy_sn hC hS x j) hj (fun c' _ _ e q => hl ⟨j, fun i hi => h i (by omega), ?_⟩)
      rw [← show c' = c from e]
      exact q
  have eqm : ∀ j : Nat, (∀ i : Nat, i < j → ¬ z_exi due days (fun j => z_tdy M x j k) i) → z_tdy M x j k = z_tdy M y j k := fun j h => z_eqs_o (main j h) (by omega)
  have back : ∀ j : Nat, z_tgo M k due days y j → ∀ i : Nat, i ≤ j → ¬ z_exi due days (fun j => z_tdy M x j k) i := fun j h i => by
    induction i using Nat.strongRecOn with
    | ind i ih =>
      intro hi q
      refine h i hi ?_
      rw [← z_exi_c (m := fun j => z_tdy M x j k) (eqm i (fun i' hi' => ih i' hi' (by omega)))]
      exact q
  have forth : ∀ j : Nat, z_tgo M k due days x j → z_tgo M k due days y j := fun j h i hi q => by
    refine h i hi ?_
    rw [z_exi_c (m' := fun j => z_tdy M y j k) (eqm i (fun i' hi' => h i' (by omega)))]
    exact q
  constructor
  · funext c'
    refine propext ⟨?_, ?_⟩
    · rintro ⟨j, h, q⟩
      have h2 := back j h
      rw [← z_lkn_e (main j (fun i hi => h2 i (by omega))) (by omega)] at q
      exact ⟨j, h2, q⟩
    · rintro ⟨j, h, q⟩
      rw [z_lkn_e (main j (fun i hi => h i (by omega))) (by omega)] at q
      exact ⟨j, forth j h, q⟩
  · obtain ⟨J, J1, J2, J3⟩ := z_exi_e due days (fun j => z_tdy M x j k)
    have e := eqm J J3
    have sx : z_sn M 999 (z_sls (M 342) x 25) := z_sn_sls (x := x) hC hS 25 (by omega)
    have sy : z_sn M 999 (z_sls (M 342) y 25) := z_sn_sls (x := y) hC hS 25 (by omega)
    have mx := z_dys_mm (ev := M 321 52) hC sx hk J (days - J)
    have my := z_dys_mm (ev := M 321 52) hC sy hk J (days - J)
    rw [show J + (days - J) = days by omega] at mx my
    unfold z_exi at J2
    unfold z_tv
    unfold z_tdy at *
    dsimp only at J2 e
    constructor <;> intro _ <;> omega
/-- if no salt is read, none changes anything -/
theorem z_trn {k due x y : Int} {days : Nat} (hC : z_mc M) (hS : z_sn M 999 (M 342)) (hN : z_nos M) (hk : 18 ≤ k ∧ k < 54) : z_tv M k due days y ↔ z_tv M k due days x := by
  have main : ∀ j : Nat, z_eqs (fun _ => True) (z_tdy M x j) (z_tdy M y j) := by
    intro j
    induction j with
    | zero =>
      intro k hk
      show z_sls (M 342) x 25 k = z_sls (M 342) y 25 k
      rw [z_sls_o (fun q => hk ⟨q.1, by omega, trivial⟩), z_sls_o (fun q => hk ⟨q.1, by omega, trivial⟩)]
    | succ j ih => exact z_day_ns hC hN (z_tdy_sn hC hS x j) ih
  unfold z_tv
  rw [z_eqs_o (main days) (k := k) (by omega)]
theorem z_sls_or {x y c : Int} (hc : 0 ≤ c ∧ c < 25) (hb : ∀ i : Int, 0 ≤ i → i < 25 → (z_bt y i ↔ z_bt x i ∨ i = c)) : z_sls t y 25 = z_pt (z_sls t x 25) (79 + c) 9 := by
  funext k
  by_cases e : k = 79 + c
  · rw [e, z_pt_s]
    unfold z_sls
    rw [if_pos ⟨by omega, by omega, by rw [hb _ (by omega) (by omega)]; exact Or.inr (by omega)⟩]
  · rw [z_pt_n e]
    unfold z_sls
    by_cases q : 79 ≤ k ∧ k < 79 + 25
    · have e : z_bt y (k - 79) ↔ z_bt x (k - 79) := by
        rw [hb _ (by omega) (by omega)]
        exact ⟨fun w => w.elim id (fun w => by omega), Or.inl⟩
      rw [propext e]
    · rw [if_neg (fun w => q ⟨w.1, w.2.1⟩), if_neg (fun w => q ⟨w.1, w.2.1⟩)]
end
theorem z_x1 {h i : Int} (hh : 0 ≤ h ∧ h < 25) (hi : 0 ≤ i ∧ i < 25) : z_bt (z_shl 1 h) i ↔ i = h := by
  rw [z_bt_shl (by omega) (by omega)]
  omega
theorem z_x2 {h l i : Int} (hh : 0 ≤ h ∧ h < 25) (hl : 0 ≤ l ∧ l < 25) (hi : 0 ≤ i ∧ i < 25) : z_bt (z_or (z_shl 1 h) (z_shl 1 l)) i ↔ i = h ∨ i = l := by
  rw [z_bt_or (by omega), z_x1 hh hi, z_x1 hl hi]
theorem z_x3 {h m l i : Int} (hh : 0 ≤ h ∧ h < 25) (hm : 0 ≤ m ∧ m < 25) (hl : 0 ≤ l ∧ l < 25) (hi : 0 ≤ i ∧ i < 25) : z_bt (z_or (z_or (z_shl 1 h) (z_shl 1 m)) (z_shl 1 l)) i ↔ (i = h ∨ i = m) ∨ i = l := by
  rw [z_bt_or (by omega), z_x2 hh hm hi, z_x1 hl hi]
theorem z_x1v : ∀ h : Nat, h < 25 → 0 ≤ z_shl 1 h ∧ z_bc (z_shl 1 h) = 1 := by decide +kernel
theorem z_x2v : ∀ h : Nat, h < 25 → ∀ l : Nat, l < h → 0 ≤ z_or (z_shl 1 h) (z_shl 1 l) ∧ z_bc (z_or (z_shl 1 h) (z_shl 1 l)) = 2 := by decide +kernel
theorem z_x3v : ∀ h : Nat, h < 25 → ∀ m : Nat, m < h → ∀ l : Nat, l < m → 0 ≤ z_or (z_or (z_shl 1 h) (z_shl 1 m)) (z_shl 1 l) ∧ z_bc (z_or (z_or (z_shl 1 h) (z_shl 1 m)) (z_shl 1 l)) = 3 := by decide +kernel
theorem z_bc0 : z_bc 0 = 0 := by decide +kernel
/-- the first of a row that is not -1 -/
def z_fr (F : Nat → Int) : Nat → Int
  | 0 => -1
  | n + 1 => if z_fr F n = -1 then F n else z_fr F n
theorem z_fr_s {F : Nat → Int} {n : Nat} (h : z_fr F n = -1) : z_fr F (n + 1) = F n := by rw [z_fr, if_pos h]
theorem z_fr_m {F : Nat → Int} {i : Nat} (h : z_fr F i ≠ -1) : ∀ k : Nat, z_fr F (i + k) = z_fr F i
  | 0 => rfl
  | k + 1 => by rw [show i + (k + 1) = i + k + 1 by omega, z_fr, z_fr_m h k, if_neg h]
theorem z_fr_f {F : Nat → Int} {i N : Nat} (h : z_fr F i = -1) (h2 : F i ≠ -1) (hi : i < N) : z_fr F N = F i := by
  have e := z_fr_s h
  have := z_fr_m (F := F) (i := i + 1) (by rw [e]; exact h2) (N - (i + 1))
  rw [show i + 1 + (N - (i + 1)) = N by omega, e] at this
  exact this
theorem z_fr_a {F : Nat → Int} : ∀ {N : Nat}, z_fr F N = -1 → ∀ i : Nat, i < N → F i = -1
  | 0, _, i, hi => absurd hi (by omega)
  | N + 1, h, i, hi => by
    have h0 : z_fr F N = -1 := by
      by_cases c : z_fr F N = -1
      · exact c
      · rw [z_fr, if_neg c] at h
        exact h
    by_cases e : i = N
    · rw [e, ← z_fr_s h0]
      exact h
    · exact z_fr_a h0 i (by omega)
theorem z_fr_e {F : Nat → Int} : ∀ {N : Nat}, z_fr F N ≠ -1 → ∃ i : Nat, i < N ∧ z_fr F N = F i
  | 0, h => absurd rfl h
  | N + 1, h => by
    by_cases c : z_fr F N = -1
    · exact ⟨N, by omega, z_fr_s c⟩
    · obtain ⟨i, h1, h2⟩ := z_fr_e c
      refine ⟨i, by omega, ?_⟩
      rw [z_fr, if_neg c]
      exact h2
section
variable {M : z_M}
noncomputable def z_tf1 (M : z_M) (T : Int → Prop) (c : Nat) : Int := @ite Int (M 342 (79 + c) = 0 ∧ T (z_shl 1 c)) (Classical.propDecidable _) (z_shl 1 c) (-1)
noncomputable def z_tf2 (M : z_M) (T : Int → Prop) (h l : Nat) : Int := @ite Int ((M 342 (79 + h) = 0 ∧ M 342 (79 + l) = 0) ∧ T (z_or (z_shl 1 h) (z_shl 1 l))) (Classical.propDecidable _) (z_or (z_shl 1 h) (z_shl 1 l)) (-1)
noncomputable def z_tf3 (M : z_M) (T : Int → Prop) (h m l : Nat) : Int := @ite Int ((M 342 (79 + h) = 0 ∧ M 342 (79 + m) = 0 ∧ M 342 (79 + l) = 0) ∧ T (z_or (z_or (z_shl 1 h) (z_shl 1 m)) (z_shl 1 l))) (Classical.propDecidable _) (z_or (z_or (z_shl 1 h) (z_shl 1 m)) (z_shl 1 l)) (-1)
noncomputable def z_tg2 (M : z_M) (T : Int → Prop) (h : Nat) : Int := z_fr (z_tf2 M T h) h
noncomputable def z_tg3 (M : z_M) (T : Int → Prop) (h m : Nat) : Int := z_fr (z_tf3 M T h m) m
noncomputable def z_th3 (M : z_M) (T : Int → Prop) (h : Nat) : Int := z_fr (z_tg3 M T h) h
theorem z_tf1_n {T : Int → Prop} {c : Nat} (hc : c < 25) (h : z_tf1 M T c = -1) (hf : M 342 (79 + c) = 0) : ¬ T (z_shl 1 c) := fun q => by
  unfold z_tf1 at h
  rw [if_pos ⟨hf, q⟩] at h
  have := z_x1v c hc
  omega
theorem z_tf2_n {T : Int → Prop} {h l : Nat} (hh : h < 25) (hl : l < h) (e : z_tf2 M T h l = -1) (hf : M 342 (79 + h) = 0 ∧ M 342 (79 + l) = 0) : ¬ T (z_or (z_shl 1 h) (z_shl 1 l)) := fun q => by
  unfold z_tf2 at e
  rw [if_pos ⟨hf, q⟩] at e
  have := z_x2v h hh l hl
  omega
/-- where the first of each row lies, and how much it is -/
theorem z_tf1_v {T : Int → Prop} {N : Nat} (hN : N ≤ 25) (h : z_fr (z_tf1 M T) N ≠ -1) : 0 ≤ z_fr (z_tf1 M T) N ∧ z_bc (z_fr (z_tf1 M T) N) = 1 := by
  obtain ⟨i, h1, h2⟩ := z_fr_e h
  rw [h2] at h ⊢
  unfold z_tf1 at h ⊢
  by_cases c : M 342 (79 + i) = 0 ∧ T (z_shl 1 i)
  · rw [if_pos c]
    exact z_x1v i (by omega)
  · rw [if_neg c] at h
    exact absurd rfl h
theorem z_tf2_v {T : Int → Prop} {N : Nat} (hN : N ≤ 25) (h : z_fr (z_tg2 M T) N ≠ -1) : 0 ≤ z_fr (z_tg2 M T) N ∧ z_bc (z_fr (z_tg2 M T) N) = 2 := by
  obtain ⟨i, h1, h2⟩ := z_fr_e h
  rw [h2] at h ⊢
  obtain ⟨j, h3, h4⟩ := z_fr_e (F := z_tf2 M T i) h
  unfold z_tg2 at h ⊢
  rw [h4] at h ⊢
  unfold z_tf2 at h ⊢
  by_cases c : (M 342 (79 + i) = 0 ∧ M 342 (79 + j) = 0) ∧ T (z_or (z_shl 1 i) (z_shl 1 j))
  · rw [if_pos c]
    exact z_x2v i (by omega) j (by omega)
  · rw [if_neg c] at h
    exact absurd rfl h
theorem z_tf3_v {T : Int → Prop} {N : Nat} (hN : N ≤ 25) (h : z_fr (z_th3 M T) N ≠ -1) : 0 ≤ z_fr (z_th3 M T) N ∧ z_bc (z_fr (z_th3 M T) N) = 3 := by
  obtain ⟨i, h1, h2⟩ := z_fr_e h
  rw [h2] at h ⊢
  obtain ⟨j, h3, h4⟩ := z_fr_e (F := z_tg3 M T i) h
  unfold z_th3 at h ⊢
  rw [h4] at h ⊢
  obtain ⟨l, h5, h6⟩ := z_fr_e (F := z_tf3 M T i j) h
  unfold z_tg3 at h ⊢
  rw [h6] at h ⊢
  unfold z_tf3 at h ⊢
  by_cases c : (M 342 (79 + i) = 0 ∧ M 342 (79 + j) = 0 ∧ M 342 (79 + l) = 0) ∧ T (z_or (z_or (z_shl 1 i) (z_shl 1 j)) (z_shl 1 l))
  · rw [if_pos c]
    exact z_x3v i (by omega) j (by omega) l (by omega)
  · rw [if_neg c] at h
    exact absurd rfl h
end
