theorem z_oi_ne {b : Int} (h : z_oi b) (hb : ¬ b = 0) : ¬ Int32.ofInt b = 0 := by
  intro q
  have := congrArg Int32.toInt q
  rw [z_ofto h] at this
  exact hb (by simpa using this)
theorem z_lt32 {a b : Int} (ha : z_oi a) (hb : z_oi b) : Int32.ofInt a < Int32.ofInt b ↔ a < b := by rw [Int32.lt_iff_toInt_lt, z_ofto ha, z_ofto hb]
theorem z_le32 {a b : Int} (ha : z_oi a) (hb : z_oi b) : Int32.ofInt a ≤ Int32.ofInt b ↔ a ≤ b := by rw [Int32.le_iff_toInt_le, z_ofto ha, z_ofto hb]
theorem z_eq32 {a b : Int} (ha : z_oi a) (hb : z_oi b) : Int32.ofInt a = Int32.ofInt b ↔ a = b := by rw [← Int32.toInt_inj, z_ofto ha, z_ofto hb]
theorem z_oi0 : z_oi 0 := by unfold z_oi; omega
theorem z_zero : (0 : Int32) = Int32.ofInt 0 := rfl
theorem z_i64 {a : Int} (h : z_oi a) : (Int32.ofInt a).toInt64 = Int64.ofInt a := by
  rw [← Int64.ofInt_int32ToInt, z_ofto h]
theorem z_b32 {n : Int} (h : -128 ≤ n ∧ n < 128) : (Int8.ofInt n).toInt32 = Int32.ofInt n := by
  rw [← Int32.ofInt_int8ToInt]
  congr 1
  rw [Int8.toInt_ofInt]
  have e : ((Int8.size : Nat) : Int) = 256 := rfl
  simp only [Int.bmod_def, e]
  omega
theorem z_h32 {n : Int} (h : -32768 ≤ n ∧ n < 32768) : (Int16.ofInt n).toInt32 = Int32.ofInt n := by
  rw [← Int32.ofInt_int16ToInt]
  congr 1
  rw [Int16.toInt_ofInt]
  have e : ((Int16.size : Nat) : Int) = 65536 := rfl
  simp only [Int.bmod_def, e]
  omega
theorem z_lg {a b : Int} (ha : z_og a) (hb : z_og b) : lg_cmp (Int64.ofInt a) (Int64.ofInt b) = Int32.ofInt (z_lcmp a b) := by
  unfold lg_cmp z_lcmp
  simp only [gt_iff_lt, Int64.lt_iff_toInt_lt, ← Int64.toInt_inj, z_oftl ha, z_oftl hb]
  split
  · rfl
  · split <;> rfl
theorem z_lcmp_oi (a b : Int) : z_oi (z_lcmp a b) := by
  unfold z_lcmp z_oi
  split
  · omega
  · split <;> omega
def z_sN (t : Nat) (n : Fin 4) : Jvm.ClassFile.Instr := match t with
  | 0 => .istore_n n
  | 1 => .lstore_n n
  | _ => .astore_n n
def z_sO (t k : Nat) : Jvm.ClassFile.Instr := match t with
  | 0 => .istore k
  | 1 => .lstore k
  | _ => .astore k
theorem z_tg_of {pc : Nat} {off : Int} (h : 0 ≤ (pc : Int) + off) : (pc : Int) + off = ((z_tg pc off : Nat) : Int) := by
  unfold z_tg
  omega
section
variable {p : Program} {l : Launch} {e : Env} {R : Room} {s : State} {m : MethodId} {args : Array Value} {below : List Frame} {meth : Method} {c : Code} {Q : State → Prop} {D : va_G} {sz : Nat} {ex : Int → Value} {cy : Nat → ClassId} {n0 t0 nL : Nat} {xs : List Int} {o : Nat} {cc : ByteArray} {ini : Bool}
variable {pc len : Nat} {ls st st' : List z_V} {L : z_L} {M : z_M}
/-- a load of a local -/
theorem z_hl {t k : Nat} {v : z_V} (ht : t < 3) (h : z_ld ls k t = some v) (row : ∀ (lsA : Array Slot) (H : Heap) (locs : List Loc) (cells slots : Nat) (rest : List Value), v.1 = t → lsA[k]? = some (.val (z_cv sz ex v)) → W p l e R s m args below meth c H locs cells slots Q (F0 m (pc + len) lsA (z_cv sz ex v :: rest)) → W p l e R s m args below meth c H locs cells slots Q (F0 m pc lsA rest))
    (k : z_G p l e R s m args below meth c Q D sz ex cy n0 t0 nL (pc + len, ls, v :: st, L, M)) : z_G p l e R s m args below meth c Q D sz ex cy n0 t0 nL (pc, ls, st, L, M) := by
  obtain ⟨h1, h2⟩ := z_ld_sp h
  intro lsA H locs cells slots hI g1 g2
  obtain ⟨i1, i2, i3, i4, i5, i6, i7⟩ := hI
  refine row lsA H locs cells slots _ h2 (z_lh_at i7 h1 (by omega)) (k lsA H locs cells slots ⟨i1, i2, i3, i4, i5, fun w hw => ?_, i7⟩ g1 g2)
  rcases List.mem_cons.mp hw with rfl | hw
  · exact i5 _ (List.mem_of_getElem? h1)
  · exact i6 w hw
/-- a branch -/
theorem z_br {r : List z_V} {b : Bool} {tg : Nat} (hr : ∀ w ∈ r, w ∈ st) (row : ∀ (lsA : Array Slot) (H : Heap) (locs : List Loc) (cells slots : Nat), (∀ v ∈ st, z_okv L.length v) → (b = true → W p l e R s m args below meth c H locs cells slots Q (F0 m tg lsA (r.map (z_cv sz ex)))) → (b = false → W p l e R s m args below meth c H locs cells slots Q (F0 m (pc + len) lsA (r.map (z_cv sz ex)))) → W p l e R s m args below meth c H locs cells slots Q (F0 m pc lsA (st.map (z_cv sz ex))))
    (k : z_G p l e R s m args below meth c Q D sz ex cy n0 t0 nL (if b then tg else pc + len, ls, r, L, M)) : z_G p l e R s m args below meth c Q D sz ex cy n0 t0 nL (pc, ls, st, L, M) := by
  intro lsA H locs cells slots hI g1 g2
  obtain ⟨i1, i2, i3, i4, i5, i6, i7⟩ := hI
  refine row lsA H locs cells slots i6 (fun hb => ?_) (fun hb => ?_)
  · subst hb
    exact k lsA H locs cells slots ⟨i1, i2, i3, i4, i5, fun w hw => i6 w (hr w hw), i7⟩ g1 g2
  · subst hb
    exact k lsA H locs cells slots ⟨i1, i2, i3, i4, i5, fun w hw => i6 w (hr w hw), i7⟩ g1 g2
theorem z_if2_g (hx : p.tables.exec = Jvm.exec) (hb : c.code = cc) {k : Jvm.ClassFile.Cond} {off : Int} {S : z_S} {q : z_C} (hq : q.2.1 = 3) (hd : decode cc pc = .ok (.if_icmp k off, 3)) (ho : 0 ≤ (pc : Int) + off) (h : z_if2 q pc ls st L M k off = some S) (kk : z_G p l e R s m args below meth c Q D sz ex cy n0 t0 nL S) : z_G p l e R s m args below meth c Q D sz ex cy n0 t0 nL (pc, ls, st, L, M) := by
  unfold z_if2 at h
  split at h
  · rename_i y x r
    obtain ⟨y1, y2⟩ := y
    obtain ⟨x1, x2⟩ := x
    split at h
    · rename_i h1
      obtain ⟨h1, h2⟩ := h1
      dsimp only at h1 h2 h
      subst h1; subst h2
      cases h
      rw [hq] at kk
      refine z_br (len := 3) (fun w hw => List.mem_cons_of_mem _ (List.mem_cons_of_mem _ hw)) (fun lsA H locs cells slots hok kt kf => ?_) kk
      have hy := (hok _ List.mem_cons_self).1 rfl
      have hz := (hok _ (List.mem_cons_of_mem _ List.mem_cons_self)).1 rfl
      dsimp only at hy hz
      have ht := z_tg_of ho
      cases k
      · exact lv_icmp_eq hx hb hd ht (fun g => kt (by simpa [z_cnb] using (z_eq32 hz hy).mp g)) (fun g => kf (by simpa [z_cnb] using fun f => g ((z_eq32 hz hy).mpr f)))
      · exact lv_icmp_ne hx hb hd ht (fun g => kt (by simpa [z_cnb] using fun f => g ((z_eq32 hz hy).mpr f))) (fun g => kf (by simpa [z_cnb] using (z_eq32 hz hy).mp g))
      · exact lv_icmp_lt hx hb hd ht (fun g => kt (by simpa [z_cnb] using (z_lt32 hz hy).mp g)) (fun g => kf (by simpa [z_cnb] using fun f => g ((z_lt32 hz hy).mpr f)))
      · exact lv_icmp_ge hx hb hd ht (fun g => kt (by simpa [z_cnb] using (z_le32 hy hz).mp g)) (fun g => kf (by simpa [z_cnb] using fun f => g ((z_le32 hy hz).mpr f)))
      · exact lv_icmp_gt hx hb hd ht (fun g => kt (by simpa [z_cnb] using (z_lt32 hy hz).mp g)) (fun g => kf (by simpa [z_cnb] using fun f => g ((z_lt32 hy hz).mpr f)))
      · exact lv_icmp_le hx hb hd ht (fun g => kt (by simpa [z_cnb] using (z_le32 hz hy).mp g)) (fun g => kf (by simpa [z_cnb] using fun f => g ((z_le32 hz hy).mpr f)))
    · cases h
  · cases h
theorem z_if1_g (hx : p.tables.exec = Jvm.exec) (hb : c.code = cc) {k : Jvm.ClassFile.Cond} {off : Int} {S : z_S} {q : z_C} (hq : q.2.1 = 3) (hd : decode cc pc = .ok (.ifCond k off, 3)) (ho : 0 ≤ (pc : Int) + off) (h : z_if1 q pc ls st L M k off = some S) (kk : z_G p l e R s m args below meth c Q D sz ex cy n0 t0 nL S) : z_G p l e R s m args below meth c Q D sz ex cy n0 t0 nL (pc, ls, st, L, M) := by
  unfold z_if1 at h
  split at h
  · rename_i x r
    obtain ⟨x1, x2⟩ := x
    split at h
    · rename_i h2
      dsimp only at h2 h
      subst h2
      cases h
      rw [hq] at kk
      refine z_br (len := 3) (fun w hw => List.mem_cons_of_mem _ hw) (fun lsA H locs cells slots hok kt kf => ?_) kk
      have hz := (hok _ List.mem_cons_self).1 rfl
      have hy := z_oi0
      dsimp only at hz
      have ht := z_tg_of ho
      have e0 := z_zero
      cases k
      · exact lv_if_eq hx hb hd ht (fun g => kt (by simpa [z_cnb] using (z_eq32 hz hy).mp g)) (fun g => kf (by simpa [z_cnb] using fun f => g ((z_eq32 hz hy).mpr f)))
      · exact lv_if_ne hx hb hd ht (fun g => kt (by simpa [z_cnb] using fun f => g ((z_eq32 hz hy).mpr f))) (fun g => kf (by simpa [z_cnb] using (z_eq32 hz hy).mp g))
      · exact lv_if_lt hx hb hd ht (fun g => kt (by simpa [z_cnb] using (z_lt32 hz hy).mp g)) (fun g => kf (by simpa [z_cnb] using fun f => g ((z_lt32 hz hy).mpr f)))
      · exact lv_if_ge hx hb hd ht (fun g => kt (by simpa [z_cnb] using (z_le32 hy hz).mp g)) (fun g => kf (by simpa [z_cnb] using fun f => g ((z_le32 hy hz).mpr f)))
      · exact lv_if_gt hx hb hd ht (fun g => kt (by simpa [z_cnb] using (z_lt32 hy hz).mp g)) (fun g => kf (by simpa [z_cnb] using fun f => g ((z_lt32 hy hz).mpr f)))
      · exact lv_if_le hx hb hd ht (fun g => kt (by simpa [z_cnb] using (z_le32 hz hy).mp g)) (fun g => kf (by simpa [z_cnb] using fun f => g ((z_le32 hz hy).mpr f)))
    · cases h
  · cases h
/-- a store into a local -/
theorem z_pop_g (hx : p.tables.exec = Jvm.exec) (hb : c.code = cc) (hex : ∀ x, ex x = .null ∨ ∃ a, ex x = .ref a) {t k : Nat} {S : z_S} {q : z_C} (hq : q.2.1 = len) (ht : t < 3) (h : z_pop t q pc ls st L M k = some S)
    (hd : (∃ n : Fin 4, (n : Nat) = k ∧ len = 1 ∧ decode cc pc = .ok (z_sN t n, 1)) ∨ (len = 2 ∧ decode cc pc = .ok (z_sO t k, 2))) (kk : z_G p l e R s m args below meth c Q D sz ex cy n0 t0 nL S) : z_G p l e R s m args below meth c Q D sz ex cy n0 t0 nL (pc, ls, st, L, M) := by
  unfold z_pop at h
  split at h
  · rename_i v r
    obtain ⟨v1, v2⟩ := v
    split at h
    · rename_i h1
      dsimp only at h1 h
      subst h1
      split at h
      · rename_i ls' hs
        cases h
        rw [hq] at kk
        intro lsA H locs cells slots hI g1 g2
        obtain ⟨i1, i2, i3, i4, i5, i6, i7⟩ := hI
        have hin : ∀ w ∈ ls', z_okv L.length w := by
          intro w hw
          split at hs
          · unfold z_st2 at hs
            split at hs
            · cases hs
              rcases List.mem_or_eq_of_mem_set hw with hw | rfl
              · rcases List.mem_or_eq_of_mem_set hw with hw | rfl
                · exact i5 w hw
                · exact i6 _ List.mem_cons_self
              · exact ⟨fun q => by simp at q, fun q => by simp at q, fun q => by simp at q⟩
            · cases hs
          · unfold z_st at hs
            split at hs
            · cases hs
              rcases List.mem_or_eq_of_mem_set hw with hw | rfl
              · exact i5 w hw
              · exact i6 _ List.mem_cons_self
            · cases hs
        have hin2 : ∀ w ∈ r, z_okv L.length w := fun w hw => i6 w (List.mem_cons_of_mem _ hw)
        have hA := z_asc_has i7
        have hlen := i7.2.1
        match v1, ht with
        | 0, _ =>
          rw [if_neg (by decide)] at hs
          have hkn : k < nL := by
            unfold z_st at hs
            split at hs
            · rename_i h0
              exact hlen ▸ h0.1
            · cases hs
          rcases hd with ⟨n, rfl, rfl, hd⟩ | ⟨rfl, hd⟩
          · exact lv_istore_n (lv' := _) hx hb hd rfl hA hkn rfl (fun lsB hB => kk lsB H locs cells slots ⟨i1, i2, i3, i4, hin, hin2, z_lh_st hex i7 hs hB⟩ g1 g2)
          · exact lv_istore (lv' := _) hx hb hd hA hkn rfl (fun lsB hB => kk lsB H locs cells slots ⟨i1, i2, i3, i4, hin, hin2, z_lh_st hex i7 hs hB⟩ g1 g2)
        | 1, _ =>
          rw [if_pos rfl] at hs
          have hkn : k + 1 < nL := by
            unfold z_st2 at hs
            split at hs
            · rename_i h0
              exact hlen ▸ h0.1
            · cases hs
          rcases hd with ⟨n, rfl, rfl, hd⟩ | ⟨rfl, hd⟩
          · exact lv_lstore_n (lv' := _) hx hb hd rfl hA hkn rfl (fun lsB hB => kk lsB H locs cells slots ⟨i1, i2, i3, i4, hin, hin2, z_lh_st2 hex i7 hs hB⟩ g1 g2)
          · exact lv_lstore (lv' := _) hx hb hd hA hkn rfl (fun lsB hB => kk lsB H locs cells slots ⟨i1, i2, i3, i4, hin, hin2, z_lh_st2 hex i7 hs hB⟩ g1 g2)
        | 2, _ =>
          rw [if_neg (by decide)] at hs
          have hkn : k < nL := by
            unfold z_st at hs
            split at hs
            · rename_i h0
              exact hlen ▸ h0.1
            · cases hs
          have key : ∀ w : Value, (w = .null ∨ ∃ a, w = .ref a) → w = z_cv sz ex (2, v2) → W p l e R s m args below meth c H locs cells slots Q (F0 m pc lsA (w :: r.map (z_cv sz ex))) := by
            intro w hw hwe
            rcases hw with rfl | ⟨a, rfl⟩
            · rcases hd with ⟨n, rfl, rfl, hd⟩ | ⟨rfl, hd⟩
              · exact lv_astore_nN (lv' := _) hx hb hd rfl hA hkn rfl (fun lsB hB => kk lsB H locs cells slots ⟨i1, i2, i3, i4, hin, hin2, z_lh_st hex i7 hs (by rw [← hwe]; exact hB)⟩ g1 g2)
              · exact lv_astoreN (lv' := _) hx hb hd hA hkn rfl (fun lsB hB => kk lsB H locs cells slots ⟨i1, i2, i3, i4, hin, hin2, z_lh_st hex i7 hs (by rw [← hwe]; exact hB)⟩ g1 g2)
            · rcases hd with ⟨n, rfl, rfl, hd⟩ | ⟨rfl, hd⟩
              · exact lv_astore_n (lv' := _) hx hb hd rfl hA hkn rfl (fun lsB hB => kk lsB H locs cells slots ⟨i1, i2, i3, i4, hin, hin2, z_lh_st hex i7 hs (by rw [← hwe]; exact hB)⟩ g1 g2)
              · exact lv_astore (lv' := _) hx hb hd hA hkn rfl (fun lsB hB => kk lsB H locs cells slots ⟨i1, i2, i3, i4, hin, hin2, z_lh_st hex i7 hs (by rw [← hwe]; exact hB)⟩ g1 g2)
          refine key _ ?_ rfl
          rw [z_cv_r]
          unfold z_rf
          split
          · exact Or.inl rfl
          · split
            · exact hex v2
            · exact Or.inr ⟨_, rfl⟩
      · cases h
    · cases h
  · cases h
theorem z_inc_g (hx : p.tables.exec = Jvm.exec) (hb : c.code = cc) (hex : ∀ x, ex x = .null ∨ ∃ a, ex x = .ref a) {k : Nat} {n : Int} {S : z_S} {q : z_C} (hq : q.2.1 = 3) (h : z_inc q pc ls st L M k n = some S) (hd : decode cc pc = .ok (.iinc k n, 3)) (kk : z_G p l e R s m args below meth c Q D sz ex cy n0 t0 nL S) : z_G p l e R s m args below meth c Q D sz ex cy n0 t0 nL (pc, ls, st, L, M) := by
  unfold z_inc at h
  split at h
  · rename_i v hv
    split at h
    · rename_i ls' hs
      cases h
      rw [hq] at kk
      obtain ⟨h1, h2⟩ := z_ld_sp hv
      obtain ⟨v1, v2⟩ := v
      dsimp only at h2 hs
      subst h2
      intro lsA H locs cells slots hI g1 g2
      obtain ⟨i1, i2, i3, i4, i5, i6, i7⟩ := hI
      have hin : ∀ w ∈ ls', z_okv L.length w := by
        intro w hw
        unfold z_st at hs
        split at hs
        · cases hs
          rcases List.mem_or_eq_of_mem_set hw with hw | rfl
          · exact i5 w hw
          · exact z_okv_i (z_w_oi _)
        · cases hs
      have hA := z_asc_has i7
      have hkn : k < nL := by
        unfold z_st at hs
        split at hs
        · rename_i h0
          exact i7.2.1 ▸ h0.1
        · cases hs
      obtain ⟨k2, hk2⟩ := List.getElem?_of_mem (z_asc_in (sz := sz) (ex := ex) h1 (show (0 : Nat) < 3 by decide))
      refine lv_iinc (v := Int32.ofInt (z_w (v2 + n))) (lv' := _) hx hb hd hA (k := k2) hk2 (by rw [z_w_32, Int32.ofInt_add]) hkn rfl (fun lsB hB => kk lsB H locs cells slots ⟨i1, i2, i3, i4, hin, i6, z_lh_st hex i7 hs hB⟩ g1 g2)
    · cases h
  · cases h
end
