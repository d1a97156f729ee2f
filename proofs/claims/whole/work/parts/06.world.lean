/-! THE LITTLE MACHINE AND THE GREAT ONE: what the heap holds for a table of numbers; cells lie one behind the other from sz on -/
def z_rf (sz : Nat) (ex : Int → Value) (x : Int) : Value := if x = 0 then .null else if x < 0 then ex x else .ref (sz + (x - 1).toNat)
def z_cv (sz : Nat) (ex : Int → Value) (v : z_V) : Value := match v.1 with
  | 0 => .int (Int32.ofInt v.2)
  | 1 => .long (Int64.ofInt v.2)
  | _ => z_rf sz ex v.2
def z_ro (sz : Nat) (x : Int) : Option Nat := if x ≤ 0 then none else some (sz + (x - 1).toNat)
def z_kt (kd : Nat) (i : Nat) : Nat := match kd with
  | 0 => 0
  | 1 => 1
  | 2 => 0
  | 3 => 0
  | 4 => 2
  | k + 5 => z_ft k i
def z_ce (sz : Nat) (ex : Int → Value) (cy : Nat → ClassId) (e : Nat × Nat) (f : Int → Int) : va_E := match e.1 with
  | 0 => .inl (cy 0, e.2, .inl (fun j => Int32.ofInt (f j)))
  | 1 => .inl (cy 1, e.2, .inr (.inl (fun j => Int64.ofInt (f j))))
  | 2 => .inl (cy 2, e.2, .inl (fun j => Int32.ofInt (f j)))
  | 3 => .inl (cy 3, e.2, .inl (fun j => Int32.ofInt (f j)))
  | 4 => .inl (cy 4, e.2, .inr (.inr (.inr (.inr (fun j => z_ro sz (f j))))))
  | k + 5 => .inr (k, (List.range (z_cl k).2.2).map (fun (j : Nat) => z_cv sz ex (z_ft k j, f j)))
def z_wd (sz : Nat) (ex : Int → Value) (cy : Nat → ClassId) (L : z_L) (M : z_M) : va_W := L.mapIdx (fun k e => (sz + k, z_ce sz ex cy e (M ((k : Int) + 1))))
def z_tys (cy : Nat → ClassId) : List (ClassId × FieldType) := [(cy 0, .int), (cy 1, .long), (cy 2, .byte), (cy 3, .boolean), (cy 4, .object RX2)]
def z_tot (L : z_L) : Nat := (L.map fun e => e.2).sum
theorem z_lay_sp {L : z_L} {r : Int} {e : Nat × Nat} (h : z_lay L r = some e) : 0 < r ∧ L[(r - 1).toNat]? = some e ∧ r ≤ L.length := by
  unfold z_lay at h
  split at h
  · rename_i h0
    have := (List.getElem?_eq_some_iff.mp h).1
    exact ⟨h0, h, by omega⟩
  · cases h
theorem z_wd_get {sz : Nat} {ex : Int → Value} {cy : Nat → ClassId} {L : z_L} {M : z_M} (k : Nat) : (z_wd sz ex cy L M)[k]? = (L[k]?).map (fun e => (sz + k, z_ce sz ex cy e (M ((k : Int) + 1)))) := by
  unfold z_wd
  rw [List.getElem?_mapIdx]
theorem z_wd_at {sz : Nat} {ex : Int → Value} {cy : Nat → ClassId} {L : z_L} {M : z_M} {r : Int} {e : Nat × Nat} (h : z_lay L r = some e) : (z_wd sz ex cy L M)[(r - 1).toNat]? = some (sz + (r - 1).toNat, z_ce sz ex cy e (M r)) := by
  obtain ⟨h0, h1, h2⟩ := z_lay_sp h
  have : (((r - 1).toNat : Nat) : Int) + 1 = r := by omega
  rw [z_wd_get, h1, Option.map_some, this]
theorem z_wd_upd {sz : Nat} {ex : Int → Value} {cy : Nat → ClassId} {L : z_L} {M M' : z_M} {r : Int} {e : Nat × Nat} (h : z_lay L r = some e) (hM : ∀ q, q ≠ r → M' q = M q) {E : va_E} (hE : z_ce sz ex cy e (M' r) = E) : (z_wd sz ex cy L M).set (r - 1).toNat (sz + (r - 1).toNat, E) = z_wd sz ex cy L M' := by
  obtain ⟨h0, h1, h2⟩ := z_lay_sp h
  subst hE
  refine List.ext_getElem? fun k => ?_
  rw [List.getElem?_set, z_wd_get, z_wd_get]
  have hl : (r - 1).toNat < (z_wd sz ex cy L M).length := by
    unfold z_wd
    rw [List.length_mapIdx]
    exact (List.getElem?_eq_some_iff.mp h1).1
  by_cases hk : (r - 1).toNat = k
  · have : (((r - 1).toNat : Nat) : Int) + 1 = r := by omega
    rw [if_pos hk, if_pos hl, ← hk, h1, Option.map_some, this]
  · rw [if_neg hk]
    cases hL : L[k]? with
    | none => rfl
    | some x =>
      have : M' ((k : Int) + 1) = M ((k : Int) + 1) := hM _ (by omega)
      simp [this]
theorem z_wd_app {sz : Nat} {ex : Int → Value} {cy : Nat → ClassId} {L : z_L} {M : z_M} {e : Nat × Nat} : z_wd sz ex cy (L ++ [e]) (z_clr M ((L.length : Int) + 1)) = z_wd sz ex cy L M ++ [(sz + L.length, z_ce sz ex cy e (fun _ => 0))] := by
  refine List.ext_getElem? fun k => ?_
  have hl : (z_wd sz ex cy L M).length = L.length := by
    unfold z_wd
    rw [List.length_mapIdx]
  rw [z_wd_get, List.getElem?_append, List.getElem?_append, hl, z_wd_get]
  by_cases hk : k < L.length
  · rw [if_pos hk, if_pos hk]
    cases hL : L[k]? with
    | none => rfl
    | some x =>
      have : z_clr M ((L.length : Int) + 1) ((k : Int) + 1) = M ((k : Int) + 1) := by
        funext b
        unfold z_clr
        rw [if_neg (by omega)]
      simp [this]
  · rw [if_neg hk, if_neg hk]
    by_cases hk2 : k = L.length
    · subst hk2
      have : z_clr M ((L.length : Int) + 1) ((L.length : Int) + 1) = fun _ => 0 := by
        funext b
        simp [z_clr]
      simp [this]
    · rw [List.getElem?_eq_none (by simp; omega), List.getElem?_eq_none (by simp; omega)]
      rfl
theorem z_wd_D {sz : Nat} {ex : Int → Value} {cy : Nat → ClassId} {L : z_L} {M : z_M} : va_D (fun q : Nat => sz ≤ q) (z_wd sz ex cy L M) := by
  have key : ∀ (k : Nat) (q : Nat × va_E), (z_wd sz ex cy L M)[k]? = some q → q.1 = sz + k := by
    intro k q h
    rw [z_wd_get] at h
    cases hL : L[k]? with
    | none => rw [hL] at h; cases h
    | some x => rw [hL] at h; cases h; rfl
  refine ⟨fun i j a b h1 h2 h3 => ?_, fun k q h => ?_⟩
  · have a1 := key i a h1
    have a2 := key j b h2
    omega
  · have a1 := key k q h
    show sz ≤ q.1
    omega
/-- numbers of a size -/
def z_oi (x : Int) : Prop := -2147483648 ≤ x ∧ x < 2147483648
def z_og (x : Int) : Prop := -9223372036854775808 ≤ x ∧ x < 9223372036854775808
def z_okv (n : Nat) (v : z_V) : Prop := (v.1 = 0 → z_oi v.2) ∧ (v.1 = 1 → z_og v.2) ∧ (v.1 = 2 → v.2 ≤ n)
def z_okM (L : z_L) (M : z_M) : Prop := ∀ q e, z_lay L q = some e → ∀ i : Int, z_okv L.length (z_kt e.1 i.toNat, M q i) ∧ (z_kt e.1 i.toNat = 2 → 0 ≤ M q i)
def z_lh (sz : Nat) (ex : Int → Value) (lsA : Array Slot) (nL : Nat) (ls : List z_V) : Prop := lsA.size = nL ∧ ls.length = nL ∧ lv_wf lsA ∧ ∀ (i : Nat) (v : z_V), ls[i]? = some v → v.1 < 3 → lsA[i]? = some (.val (z_cv sz ex v))
def z_len2 : List Nat := [120, 11]
def z_bts : List (List Int32) := [z_tx4.map Int32.ofInt, z_tx5.map Int32.ofInt]
def z_s4 : String := "gorge by green grass flock bride groom at size wants feud pull rain of evenings draw or and not salt others home here day "
def z_s5 : String := ";()<>=+-*/%"
def z_okL (L : z_L) : Prop := ∀ g ∈ L, g.1 < 16 ∧ g.2 ≤ 5000
/-- what lies outside: the two texts, two statics, the script -/
def z_out (xs : List Int) (sz : Nat) (ex : Int → Value) (U : State) (H : Heap) : Prop :=
  (∀ x, ex x = .null ∨ ∃ a, ex x = .ref a) ∧ va_AO RX2 U ∧
  (∃ adK adV : Nat → Nat, vk_S 2 [z_tx4.length, z_tx5.length] z_bts adK adV (fun q : Nat => sz ≤ q) U H ∧ ex (-2) = .ref (adK 0) ∧ ex (-3) = .ref (adK 1) ∧ ex (-4) = .ref (adV 0) ∧ ex (-5) = .ref (adV 1) ∧ vk_R RX7 39 z_s4 (adK 0) U ∧ vk_R RX7 76 z_s5 (adK 1) U) ∧
  va_Z "java/lang/String" "COMPACT_STRINGS" "Z" (.int 1) (fun q : Nat => sz ≤ q) U H ∧ va_Z "jdk/internal/util/Preconditions" "SIOOBE_FORMATTER" "Ljava/util/function/BiFunction;" (ex (-6)) (fun q : Nat => sz ≤ q) U H ∧
  (∃ b, ex (-1) = .ref b ∧ va_T .int b xs.length (fun j => .int (Int32.ofInt (xs.getD j 0))) (fun q : Nat => sz ≤ q) U H) ∧ (∀ x ∈ xs, z_oi x) ∧ xs.length < 2147483648
theorem z_out.kept {xs : List Int} {sz : Nat} {ex : Int → Value} {U : State} {H H1 : Heap} (h : z_out xs sz ex U H) (hq : ∀ a : Nat, a < H.size → ¬ sz ≤ a → H1[a]? = H[a]?) : z_out xs sz ex U H1 := by
  obtain ⟨h1, h2, ⟨adK, adV, h3, h4⟩, h5, h6, ⟨b, h7, h8⟩, h9⟩ := h
  exact ⟨h1, h2, ⟨adK, adV, h3.kept hq, h4⟩, h5.kept hq, h6.kept hq, ⟨b, h7, h8.kept hq⟩, h9⟩
theorem z_out.warm {xs : List Int} {sz : Nat} {ex : Int → Value} {s U : State} {H : Heap} (hW : s.WarmedH U.vm) (h : z_out xs sz ex s H) : z_out xs sz ex U H := by
  obtain ⟨h1, h2, ⟨adK, adV, h3, h4, h41, h42, h43, h44, h45⟩, h5, h6, ⟨b, h7, h8⟩, h9⟩ := h
  exact ⟨h1, h2.moved hW.alike, ⟨adK, adV, h3.moved hW.alike, h4, h41, h42, h43, h44.warm hW, h45.warm hW⟩, h5.moved hW.alike, h6.moved hW.alike, ⟨b, h7, h8.moved hW.alike⟩, h9⟩
theorem z_out.same {xs : List Int} {sz : Nat} {ex : Int → Value} {s U : State} {H : Heap} (hv : U.vm = s.vm) (h : z_out xs sz ex s H) : z_out xs sz ex U H := by
  obtain ⟨h1, h2, ⟨adK, adV, h3, h4, h41, h42, h43, h44, h45⟩, h5, h6, ⟨b, h7, h8⟩, h9⟩ := h
  have ha : s.vm.Alike U.vm := by rw [hv]; exact Vm.Alike.refl _
  exact ⟨h1, h2.moved ha, ⟨adK, adV, h3.moved ha, h4, h41, h42, h43, h44.same hv, h45.same hv⟩, h5.moved ha, h6.moved ha, ⟨b, h7, h8.moved ha⟩, h9⟩
def z_In (sz : Nat) (ex : Int → Value) (cy : Nat → ClassId) (D : va_G) (s : State) (nL : Nat) (lsA : Array Slot) (H : Heap) (locs : List Loc) (ls st : List z_V) (L : z_L) (M : z_M) : Prop :=
  va_P D vwCl (z_wd sz ex cy L M) H ∧ z_okL L ∧ va_S (fun q : Nat => sz ≤ q) s.heap H locs ∧ z_okM L M ∧ (∀ v ∈ ls, z_okv L.length v) ∧ (∀ v ∈ st, z_okv L.length v) ∧ z_lh sz ex lsA nL ls
def z_G (p : Program) (l : Launch) (e : Env) (R : Room) (s : State) (m : MethodId) (args : Array Value) (below : List Frame) (meth : Method) (c : Code) (Q : State → Prop) (D : va_G) (sz : Nat) (ex : Int → Value) (cy : Nat → ClassId) (n0 t0 nL : Nat) (S : z_S) : Prop :=
  ∀ (lsA : Array Slot) (H : Heap) (locs : List Loc) (cells slots : Nat), z_In sz ex cy D s nL lsA H locs S.2.1 S.2.2.1 S.2.2.2.1 S.2.2.2.2 → cells + n0 = S.2.2.2.1.length → slots + t0 = z_tot S.2.2.2.1 →
    W p l e R s m args below meth c H locs cells slots Q (F0 m S.1 lsA (S.2.2.1.map (z_cv sz ex)))
def z_Cx (p : Program) (s : State) (m : MethodId) (args : Array Value) (meth : Method) (c : Code) (D : va_G) (sz : Nat) (ex : Int → Value) (cy : Nat → ClassId) (nL : Nat) (xs : List Int) (o : Nat) (cc : ByteArray) (ini : Bool) (n0 : Nat) : Prop :=
  p.tables.exec = Jvm.exec ∧ c.code = cc ∧ c.maxLocals = nL ∧ s.vm.findClass (z_rn o) = some m.cls ∧ (∀ w ∈ z_ws, w.before args s = true) ∧ (∀ w ∈ z_nst, va_Nw w s) ∧ va_K D vwCl (z_tys cy) s ∧ z_out xs sz ex s s.heap ∧ s.heap.size = sz + n0 ∧ (ini = true → meth.name = "<init>")
theorem z_wd_sz {sz : Nat} {ex : Int → Value} {cy : Nat → ClassId} {D : va_G} {L : z_L} {M : z_M} {H : Heap} (h : va_P D vwCl (z_wd sz ex cy L M) H) (h0 : sz ≤ H.size) : sz + L.length ≤ H.size := by
  rcases Nat.eq_zero_or_pos L.length with h1 | h1
  · omega
  · obtain ⟨e, he⟩ : ∃ e, L[L.length - 1]? = some e := ⟨_, List.getElem?_eq_getElem (by omega)⟩
    have h2 : (z_wd sz ex cy L M)[L.length - 1]? = some (sz + (L.length - 1), z_ce sz ex cy e (M (((L.length - 1 : Nat) : Int) + 1))) := by rw [z_wd_get, he]; rfl
    have h3 := (h _ _ h2).lt
    dsimp only at h3
    omega
/-- how large the heap is -/
theorem z_szW {p : Program} {l : Launch} {e : Env} {R : Room} {s : State} {m : MethodId} {args : Array Value} {below : List Frame} {meth : Method} {c : Code} {Q : State → Prop} {D : va_G} {sz : Nat} {ex : Int → Value} {cy : Nat → ClassId} {n0 : Nat} {L : z_L} {M : z_M} {H : Heap} {locs : List Loc} {cells slots : Nat} {g : JFrame} (hs : s.heap.size = sz + n0)
    (hP : va_P D vwCl (z_wd sz ex cy L M) H) (hS : va_S (fun q : Nat => sz ≤ q) s.heap H locs) (hc : cells + n0 = L.length) (k : H.size = sz + L.length → W p l e R s m args below meth c H locs cells slots Q g) : W p l e R s m args below meth c H locs cells slots Q g := by
  intro T hT X
  have h1 := X.heapSize
  rw [hT] at h1
  have h2 := z_wd_sz hP (by have := hS.1; omega)
  exact k (by omega) T hT X
