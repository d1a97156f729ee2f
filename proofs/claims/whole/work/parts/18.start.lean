/-! THE CLAIM OUT OF ONE WALK OF THE LAW'S BODY. Your part is whole_start (and what it stands on); all else here is the same for every law, but numbers. -/
def R_law : String := "GoatMatchesLaw"
def lw_P (b : Addr) (xs : List Int32) (args : Array Value) (s : State) : Prop := args = #[.ref b] ∧ s.IntsAt b xs ∧ xs.length ≤ 3072 ∧ (Jvm.Cond.and given_1 narrow_1).before args s = true
def lw_Q (_ : Array Value) (s : State) (o : Outcome) (t : State) : Prop := o = .returned (some (.int 1)) ∧ Framed s o t [] 600000 7302250
def lw_Z (below : List Frame) (a : Array Value) (s : State) : State → Prop := fun t => ∃ o, t.status = .running ∧ Ended t below o ∧ lw_Q a s o t
/-- the law's own end, with 1 on the stack, nothing written that was there before, its room as the claim has it -/
theorem lw_ret {p : Program} {l : Launch} {e : Env} {s : State} {m : MethodId} {below : List Frame} {meth : Method} {c : Code} {b : Nat} (hx : p.tables.exec = Jvm.exec) (hb : c.code = code) (hr : meth.sig.returnType = ret) (hlocks : meth.locks = false) {pc : Nat} {H : Heap} {ls : Array Slot} (hdg : decode code pc = .ok (.ireturn, 1)) : W p l e room_1 s m #[Value.ref b] below meth c H [] 600000 7302250 (lw_Z below #[Value.ref b] s) (F0 m pc ls [.int 1]) := by
  intro T hT X
  obtain ⟨fs, hret, hrun, hended, hW, hframe⟩ := X.leave (v := some (.int 1)) (hlocks := hlocks) (fun h => by rw [hr] at h; cases h)
  have hmeth' : T.vm.method? m = some meth := X.method'
  refine ⟨T.setFrames fs, ?_, .returned (some (.int 1)), hrun, hended, rfl, ⟨_, rfl⟩, hW, hframe⟩
  jvm_step X.here [X.here.top, hx, hb, hdg, hmeth', hr, ret, narrow_b1]
  (try refine ⟨rfl, ?_⟩); (try refine ⟨rfl, ?_⟩)
  first | (intro acts; rw [hret _ acts rfl rfl rfl]) | rw [hret _ _ rfl rfl rfl]
  exact Steps.refl _
/-- what holds at the law's entry: the machine, the code, the tables' words (any of lw_tbl by 'hts w (by decide +kernel)'), the script of L ints xs at the cell b, what the Statement gives of the start (any of its parts by flat_of_before) -/
def lw_At (p : Program) (s : State) (m : MethodId) (meth : Method) (c : Code) (b L : Nat) (xs : Nat → Int32) : Prop :=
  p.tables.exec = Jvm.exec ∧ c.code = code ∧ meth.sig.returnType = ret ∧ c.maxLocals = 4 ∧ s.vm.findClass R_law = some m.cls ∧ (∀ w ∈ lw_tbl, w.before #[Value.ref b] s = true) ∧ va_X b L xs s s.heap ∧ b < s.heap.size ∧ meth.locks = false ∧ (Jvm.Cond.and given_1 narrow_1).before #[Value.ref b] s = true
def z_ipos : List Nat := [2122, 1030, 1166, 2180, 2159, 2067, 2213, 1216, 2097, 1022, 6000]
theorem z_ipos_ok : ∀ ci, ci < 11 → z_pw (z_ipos.getD ci 0) (.instantiable (z_cl ci).1 (z_cl ci).2.2) = true := by decide +kernel
def z_tm (i : Nat) : Term := .string RX7 (if i = 0 then 39 else 76)
def z_flat : List Cond := flatC (Jvm.Cond.and given_1 narrow_1)
theorem z_f1 : ∀ i, i < 2 → (Cond.exactly (z_tm i) "java/lang/String") ∈ z_flat ∧ (Cond.eq (.field (z_tm i) "java/lang/String" "coder" "B") (.int 0)) ∈ z_flat ∧ (Cond.arrayOf (.field (z_tm i) "java/lang/String" "value" "[B") .byte) ∈ z_flat ∧ (Cond.eq (.length (.field (z_tm i) "java/lang/String" "value" "[B")) (.int (Int32.ofNat ([z_tx4.length, z_tx5.length].getD i 0)))) ∈ z_flat := by decide +kernel
theorem z_f2 : ∀ i, i < 2 → ∀ j, j < [z_tx4.length, z_tx5.length].getD i 0 → (Cond.eq (.elem (.field (z_tm i) "java/lang/String" "value" "[B") (.int (Int32.ofNat j))) (.int ((z_bts.getD i []).getD j 0))) ∈ z_flat := by decide +kernel
theorem z_f3 : (Cond.not (Cond.eq (z_tm 0) (z_tm 1))) ∈ z_flat ∧ (Cond.eq (.static "java/lang/String" "COMPACT_STRINGS" "Z") (.int 1)) ∈ z_flat ∧ (Cond.isRef (.static "jdk/internal/util/Preconditions" "SIOOBE_FORMATTER" "Ljava/util/function/BiFunction;")) ∈ z_flat := by decide +kernel
theorem z_t1 : Cond.stringRef RX7 39 z_s4 ∈ lw_tbl ∧ Cond.stringRef RX7 76 z_s5 ∈ lw_tbl ∧ Cond.laysStatic "java/lang/String" "COMPACT_STRINGS" "Z" ∈ lw_tbl ∧ Cond.laysStatic "jdk/internal/util/Preconditions" "SIOOBE_FORMATTER" "Ljava/util/function/BiFunction;" ∈ lw_tbl ∧ Cond.initialized "java/lang/String" ∈ lw_tbl ∧ Cond.initialized "jdk/internal/util/Preconditions" ∈ lw_tbl ∧ Cond.arrayOver (.object RX2) ∈ lw_tbl ∧ (∀ w ∈ z_nst, w ∈ lw_tbl) := by decide +kernel
theorem z_t2 : Cond.arrayClass .int ∈ lw_tbl ∧ Cond.arrayClass .long ∈ lw_tbl ∧ Cond.arrayClass .byte ∈ lw_tbl ∧ Cond.arrayClass .boolean ∈ lw_tbl := by decide +kernel
/-- what must be shown of the little machine: the law ends with true -/
def z_goal : Prop := ∀ xs : List Int, (∀ x ∈ xs, z_oi x) → xs.length ≤ 3072 → ∃ (n : Nat) (L' : z_L) (M' : z_M), z_ev xs n 700 mL_law 0 [(2, -1), (3, 0), (3, 0), (3, 0)] [] [] (fun _ _ => 0) = some (some (0, 1), L', M') ∧ L'.length ≤ 600000 ∧ z_tot L' ≤ 7302250
theorem z_arrK {args : Array Value} {s : State} {ty : FieldType} (h : (Cond.arrayClass ty).before args s = true) : ∃ cA : ClassId, ArrOfT s cA ty ∧ s.vm.findClass ("[" ++ ty.toString) = some cA := by
  obtain ⟨cA, k, comp, h1, h2, h3⟩ := Cond.arrayClass_spec h
  exact ⟨cA, fun n z => ⟨(fun k h => (by cases h)), k, h2, comp, h3⟩, h1⟩
theorem z_start {p : Program} {e : Env} {s : State} {m : MethodId} {below : List Frame} {meth : Method} {c : Code} (l : Launch) (hall : ∀ i, i < 297 → z_mki i = true) (z_lawk : z_okm 40 false code kL_law = true) {b L : Nat} {xs : Nat → Int32} (hL : L ≤ 3072) (C0 : lw_At p s m meth c b L xs) (hgoal : z_goal) : W p l e room_1 s m #[Value.ref b] below meth c s.heap [] 0 0 (lw_Z below #[Value.ref b] s) (entryFrame m ([Value.ref b] : List Value).toArray 4) := by
  obtain ⟨hx, hb, hr, hml, hown, hts, hX, hbl, hlocks, hgv⟩ := C0
  have hfl : ∀ w ∈ z_flat, w.before #[Value.ref b] s = true := flat_of_before _ hgv
  have hws : ∀ w ∈ z_ws, w.before #[Value.ref b] s = true := fun w hw => hts w (z_ws_in w hw)
  have hA : ∀ a : Nat, a < s.heap.size → ¬ (s.heap.size ≤ a) := fun a h1 h2 => by omega
  -- the classes
  have h11 : ∀ ci, ∃ q : ClassId × (Nat → Nat), ci < 11 → u_Kn s (z_cl ci).1 (z_cl ci).2.1 (z_cl ci).2.2 q.1 q.2 := by
    intro ci
    by_cases hc : ci < 11
    · obtain ⟨cC, iS, h⟩ := u_known hws (z_up_in hc) (hws _ (z_pw_in (z_ipos_ok ci hc)))
      exact ⟨(cC, iS), fun _ => h⟩
    · exact ⟨(0, fun _ => 0), fun h => absurd h hc⟩
  obtain ⟨Dq, hDq⟩ := Classical.axiomOfChoice h11
  obtain ⟨t1, t2, t3, t4, t5, t6, t7, t8⟩ := z_t1
  obtain ⟨a1, a2, a3, a4⟩ := z_t2
  obtain ⟨cI, hI1, hI2⟩ := z_arrK (hts _ a1)
  obtain ⟨cJ, hJ1, hJ2⟩ := z_arrK (hts _ a2)
  obtain ⟨cB, hB1, hB2⟩ := z_arrK (hts _ a3)
  obtain ⟨cZ, hZ1, hZ2⟩ := z_arrK (hts _ a4)
  obtain ⟨comp, cO, kO, o1, o2, o3, o4, o5⟩ := Cond.arrayOver_spec (hts _ t7)
  have hK : va_K (fun ci => (Dq ci).1, fun ci => (Dq ci).2) vwCl (z_tys (fun k => match k with | 0 => cI | 1 => cJ | 2 => cB | 3 => cZ | _ => cO)) s := by
    refine ⟨fun ci q hq => ?_, fun k q hq => ?_⟩
    · have hc : ci < 11 := (List.getElem?_eq_some_iff.mp hq).1
      have := Option.some.inj (hq.symm.trans (z_cl_at hc))
      rw [this]
      exact hDq ci hc
    · have hk : k < 5 := (List.getElem?_eq_some_iff.mp hq).1
      match k, hk with
      | 0, _ => cases hq; exact ⟨hI1, hI2⟩
      | 1, _ => cases hq; exact ⟨hJ1, hJ2⟩
      | 2, _ => cases hq; exact ⟨hB1, hB2⟩
      | 3, _ => cases hq; exact ⟨hZ1, hZ2⟩
      | 4, _ => cases hq; exact ⟨fun n z => ⟨(fun k h => (by cases h)), kO, o3, comp, o4⟩, kO, comp, o3, o4, o1, o5⟩
  -- the texts
  obtain ⟨adK, adV, hS, had⟩ := vk_Sof (args := #[Value.ref b]) (s := s) (N := 2) (tm := z_tm) (len := [z_tx4.length, z_tx5.length]) (byt := z_bts) (A := fun q => s.heap.size ≤ q) (by decide +kernel) (fun i hi => hfl _ (z_f1 i hi).1) (fun i hi => hfl _ (z_f1 i hi).2.1) (fun i hi => hfl _ (z_f1 i hi).2.2.1) (fun i hi => hfl _ (z_f1 i hi).2.2.2) (fun i hi j hj => hfl _ (z_f2 i hi j hj))
    (fun i j hi hj hij => by
      match i, j, hi, hj with
      | 0, 0, _, _ => exact absurd rfl hij
      | 0, 1, _, _ => exact Or.inl (hfl _ z_f3.1)
      | 1, 0, _, _ => exact Or.inr (hfl _ z_f3.1)
      | 1, 1, _, _ => exact absurd rfl hij) hA
  have hR4 : vk_R RX7 39 z_s4 (adK 0) s := vk_R.of (A := #[Value.ref b]) (hts _ t1) (had 0 (by decide))
  have hR5 : vk_R RX7 76 z_s5 (adK 1) s := vk_R.of (A := #[Value.ref b]) (hts _ t2) (had 1 (by decide))
  have hcs : va_Z "java/lang/String" "COMPACT_STRINGS" "Z" (.int 1) (fun q => s.heap.size ≤ q) s s.heap := va_Zof (hts _ t3) (hts _ t5) (va_eqt (hfl _ z_f3.2.1)) hA
  obtain ⟨v6, hv6, hsi⟩ : ∃ v6 : Value, (v6 = .null ∨ ∃ a, v6 = .ref a) ∧ va_Z "jdk/internal/util/Preconditions" "SIOOBE_FORMATTER" "Ljava/util/function/BiFunction;" v6 (fun q => s.heap.size ≤ q) s s.heap := by
    rcases va_Zqof (hts _ t4) (hts _ t6) (hfl _ z_f3.2.2) hA with h | ⟨t, h⟩
    · exact ⟨_, Or.inl rfl, h⟩
    · exact ⟨_, Or.inr ⟨t, rfl⟩, h⟩
  obtain ⟨ex, x1, x2, x3, x4, x5, x6, hex⟩ : ∃ ex : Int → Value, ex (-1) = .ref b ∧ ex (-2) = .ref (adK 0) ∧ ex (-3) = .ref (adK 1) ∧ ex (-4) = .ref (adV 0) ∧ ex (-5) = .ref (adV 1) ∧ ex (-6) = v6 ∧ ∀ x, ex x = .null ∨ ∃ a, ex x = .ref a := by
    refine ⟨fun x => if x = -1 then .ref b else if x = -2 then .ref (adK 0) else if x = -3 then .ref (adK 1) else if x = -4 then .ref (adV 0) else if x = -5 then .ref (adV 1) else if x = -6 then v6 else .null, rfl, rfl, rfl, rfl, rfl, rfl, fun x => ?_⟩
    dsimp only
    split
    · exact Or.inr ⟨_, rfl⟩
    · split
      · exact Or.inr ⟨_, rfl⟩
      · split
        · exact Or.inr ⟨_, rfl⟩
        · split
          · exact Or.inr ⟨_, rfl⟩
          · split
            · exact Or.inr ⟨_, rfl⟩
            · split
              · exact hv6
              · exact Or.inl rfl
  have hsc : va_T .int b ((List.range L).map (fun j => (xs j).toInt)).length (fun j => .int (Int32.ofInt (((List.range L).map (fun j => (xs j).toInt)).getD j 0))) (fun q => s.heap.size ≤ q) s s.heap := by
    obtain ⟨scr, q1, q2, q3, q4, q5⟩ := hX
    rw [List.length_map, List.length_range]
    refine ⟨scr, q1, q2, q3, by omega, by rw [q4], fun j hj => ?_, hA b hbl⟩
    show _ = some (Value.int (Int32.ofInt (((List.range L).map (fun j => (xs j).toInt)).getD j 0)))
    rw [q5 j hj, List.getD_eq_getElem?_getD, List.getElem?_map, List.getElem?_range hj]
    show _ = some (Value.int (Int32.ofInt (xs j).toInt))
    rw [Int32.ofInt_toInt]
  have hO : z_out ((List.range L).map (fun j => (xs j).toInt)) s.heap.size ex s s.heap := by
    refine ⟨hex, va_AO.of (A := #[Value.ref b]) (hts _ t7), ⟨adK, adV, hS, x2, x3, x4, x5, hR4, hR5⟩, hcs, by rw [x6]; exact hsi, ⟨b, x1, hsc⟩, fun x hx => ?_, ?_⟩
    · obtain ⟨j, -, rfl⟩ := List.mem_map.mp hx
      exact z_i_oi _
    · rw [List.length_map, List.length_range]
      omega
  obtain ⟨n, L', M', hev, hl1, hl2⟩ := hgoal ((List.range L).map (fun j => (xs j).toInt)) hO.2.2.2.2.2.2.1 (by rw [List.length_map, List.length_range]; exact hL)
  have hCx : z_Cx p s m #[Value.ref b] meth c (fun ci => (Dq ci).1, fun ci => (Dq ci).2) s.heap.size ex (fun k => match k with | 0 => cI | 1 => cJ | 2 => cB | 3 => cZ | _ => cO) 4 ((List.range L).map (fun j => (xs j).toInt)) 40 code false 0 :=
    ⟨hx, hb, hml, hown, hws, fun w hw => va_Nw.of (by revert w; decide) (hts _ (t8 w hw)), hK, hO, rfl, fun h => by cases h⟩
  have hw := z_main (l := l) (xs := (List.range L).map (fun j => (xs j).toInt)) (sz := s.heap.size) (ex := ex) (cy := fun k => match k with | 0 => cI | 1 => cJ | 2 => cB | 3 => cZ | _ => cO) (D := (fun ci => (Dq ci).1, fun ci => (Dq ci).2)) hall n
  have hlv := lv_entry ([.ref b]) (n := 4) (Nat.le_of_ble_eq_true rfl)
  rw [lg_entry_eq]
  generalize (lg_sl ([.ref b]) ++ List.replicate (4 - (lg_sl ([.ref b])).length) Slot.unset).toArray = ls at hlv ⊢
  refine hw p e room_1 s m #[Value.ref b] below meth c _ 0 0 4 40 code false mL_law 700 0 _ [] [] (fun _ _ => 0) _ L' M' hCx ⟨by decide, by decide⟩ z_lawk ⟨by show L'.length ≤ 0 + 600000; omega, by show z_tot L' ≤ 0 + 7302250; omega⟩ ?_ hev ls s.heap [] 0 0 ⟨(by intro k q h; simp [z_wd] at h), (by intro g hg; cases hg), va_S.rf, fun q g hg => ?_, fun v hv => ?_, (by intro v hv; cases hv), hlv.1, rfl, hlv.2.1, fun i v hi hv3 => ?_⟩ rfl rfl
  · intro q pc lsA H locs cells slots st hd hln hret hP1 hS1 hL1 hM1 hst c1 c2
    rcases z_ret_sp hret with ⟨hq, x, rfl, hx1, hrok⟩ | ⟨hq, hrk, x, rfl, hx1⟩ | ⟨hq, hrk, x, hx0, rfl, hx1⟩ | ⟨hq, hrk, rfl, hx1⟩
    · cases hx1
      rw [hq] at hd hln
      have hn1 : q.2.1 = 1 := by simpa [z_lnk] using hln
      rw [hn1] at hd
      refine va_forget (fun q hq => hS1.2.2 q hq) ?_
      refine W.widen (k := 600000) (n := 7302250) (by omega) (by omega) ?_
      exact lw_ret hx hb hr hlocks hd
    · cases hx1
    · cases hx1
    · cases hx1
  · have := (z_lay_sp hg).2.1
    simp at this
  · simp only [List.mem_cons, List.not_mem_nil, or_false] at hv
    rcases hv with rfl | rfl | rfl | rfl
    · exact ⟨fun q => by simp at q, fun q => by simp at q, fun _ => by show (-1 : Int) ≤ _; simp⟩
    all_goals exact ⟨fun q => by simp at q, fun q => by simp at q, fun q => by simp at q⟩
  · match i with
    | 0 =>
      cases hi
      rw [show z_cv s.heap.size ex (2, -1) = .ref b from x1]
      exact hlv.2.2 _ List.mem_cons_self
    | 1 => cases hi; exact absurd hv3 (by decide)
    | 2 => cases hi; exact absurd hv3 (by decide)
    | 3 => cases hi; exact absurd hv3 (by decide)
    | i + 4 => simp at hi
