/-! THE LAW'S OWN CODE: in pieces -/
def z_okf (o : Nat) (ini : Bool) (cc : ByteArray) (k : List (Option z_C)) (pc : Nat) : Bool := match k[pc]? with
  | some (some c) => decide (decode cc pc = .ok (c.1, c.2.1)) && z_lnk c.1 c.2.1 && z_oki o ini c && z_okj pc c
  | _ => true
theorem z_okm_f {o : Nat} {ini : Bool} {cc : ByteArray} {k : List (Option z_C)} (h : ∀ pc, pc < k.length → z_okf o ini cc k pc = true) : z_okm o ini cc k = true := by
  refine List.all_eq_true.mpr (fun pc hp => ?_)
  exact h pc (List.mem_range.mp hp)
theorem z_okr {o : Nat} {ini : Bool} {cc : ByteArray} {k : List (Option z_C)} {a n : Nat} (h : ((List.range' a n).all (z_okf o ini cc k)) = true) (pc : Nat) (h1 : a ≤ pc) (h2 : pc < a + n) : z_okf o ini cc k pc = true := List.all_eq_true.mp h pc (by
  rw [List.mem_range'_1]
  exact ⟨h1, h2⟩)
theorem z_lk_0 : ((List.range' 0 50).all (z_okf 40 false code kL_law)) = true := by decide +kernel
theorem z_lk_50 : ((List.range' 50 50).all (z_okf 40 false code kL_law)) = true := by decide +kernel
theorem z_lk_100 : ((List.range' 100 50).all (z_okf 40 false code kL_law)) = true := by decide +kernel
theorem z_lk_150 : ((List.range' 150 50).all (z_okf 40 false code kL_law)) = true := by decide +kernel
theorem z_lk_200 : ((List.range' 200 50).all (z_okf 40 false code kL_law)) = true := by decide +kernel
theorem z_lk_250 : ((List.range' 250 50).all (z_okf 40 false code kL_law)) = true := by decide +kernel
theorem z_lk_300 : ((List.range' 300 50).all (z_okf 40 false code kL_law)) = true := by decide +kernel
theorem z_lk_350 : ((List.range' 350 50).all (z_okf 40 false code kL_law)) = true := by decide +kernel
theorem z_lk_400 : ((List.range' 400 50).all (z_okf 40 false code kL_law)) = true := by decide +kernel
