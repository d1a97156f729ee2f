/-! THE LITTLE MACHINE: memory is a table of numbers (cell, place), a layout list tells each cell's kind and length; kinds: 0 int, 1 long, 2 byte, 3 boolean, 4 rows of Herds, 5 + ci an object of class ci. A value: (0, int), (1, long), (2, reference: 0 null, k > 0 the cell k, below 0 a cell outside), (3, nothing). -/
abbrev z_L : Type := List (Nat × Nat)
abbrev z_M : Type := Int → Int → Int
abbrev z_S : Type := Nat × List z_V × List z_V × z_L × z_M
def z_w (x : Int) : Int := (x + 2147483648) % 4294967296 - 2147483648
def z_wl (x : Int) : Int := (x + 9223372036854775808) % 18446744073709551616 - 9223372036854775808
def z_up (M : z_M) (q i v : Int) : z_M := fun a b => if a = q ∧ b = i then v else M a b
def z_clr (M : z_M) (q : Int) : z_M := fun a b => if a = q then 0 else M a b
def z_cpy (M : z_M) (q0 s0 q1 s1 n : Int) : z_M := fun a b => if a = q1 ∧ s1 ≤ b ∧ b < s1 + n then M q0 (s0 + (b - s1)) else M a b
def z_lay (L : z_L) (r : Int) : Option (Nat × Nat) := if 0 < r then L[(r - 1).toNat]? else none
def z_and (x y : Int) : Int := (Int32.ofInt x &&& Int32.ofInt y).toInt
def z_or (x y : Int) : Int := (Int32.ofInt x ||| Int32.ofInt y).toInt
def z_xor (x y : Int) : Int := (Int32.ofInt x ^^^ Int32.ofInt y).toInt
def z_shl (x y : Int) : Int := (Int32.ofInt x <<< (Int32.ofInt y &&& 31)).toInt
def z_shr (x y : Int) : Int := (Int32.ofInt x >>> (Int32.ofInt y &&& 31)).toInt
def z_ushr (x y : Int) : Int := ((Int32.ofInt x).toUInt32 >>> ((Int32.ofInt y).toUInt32 &&& Int32.toUInt32 31)).toInt32.toInt
def z_div (x y : Int) : Int := (Int32.ofInt x / Int32.ofInt y).toInt
def z_rem (x y : Int) : Int := (Int32.ofInt x - Int32.ofInt x / Int32.ofInt y * Int32.ofInt y).toInt
def z_i2b (x : Int) : Int := (Int32.ofInt x).toInt8.toInt32.toInt
def z_i2c (x : Int) : Int := ((Int32.ofInt x).toUInt32 % 65536).toInt32.toInt
def z_lshl (x y : Int) : Int := (Int64.ofInt x <<< ((Int32.ofInt y).toInt64 &&& 63)).toInt
def z_lor (x y : Int) : Int := (Int64.ofInt x ||| Int64.ofInt y).toInt
def z_lcmp (x y : Int) : Int := if y < x then 1 else if x = y then 0 else -1
/-- locals -/
def z_ld (ls : List z_V) (k t : Nat) : Option z_V := match ls[k]? with
  | some v => if v.1 = t then some v else none
  | none => none
def z_nl (ls : List z_V) : Nat → Bool
  | 0 => true
  | k + 1 => match ls[k]? with
    | some v => v.1 != 1
    | none => true
def z_st (ls : List z_V) (k : Nat) (v : z_V) : Option (List z_V) := if k < ls.length ∧ z_nl ls k = true then some (ls.set k v) else none
def z_st2 (ls : List z_V) (k : Nat) (v : z_V) : Option (List z_V) := if k + 1 < ls.length ∧ z_nl ls k = true then some ((ls.set k v).set (k + 1) (3, 0)) else none
def z_psh (c : z_C) (pc : Nat) (ls st : List z_V) (L : z_L) (M : z_M) (v : Option z_V) : Option z_S := match v with
  | some v => some (pc + c.2.1, ls, v :: st, L, M)
  | none => none
def z_stk (c : z_C) (pc : Nat) (ls : List z_V) (st : Option (List z_V)) (L : z_L) (M : z_M) : Option z_S := match st with
  | some st => some (pc + c.2.1, ls, st, L, M)
  | none => none
def z_pop (t : Nat) (c : z_C) (pc : Nat) (ls st : List z_V) (L : z_L) (M : z_M) (k : Nat) : Option z_S := match st with
  | v :: r => if v.1 = t then match (if t = 1 then z_st2 ls k v else z_st ls k v) with
      | some ls => some (pc + c.2.1, ls, r, L, M)
      | none => none
    else none
  | [] => none
def z_inc (c : z_C) (pc : Nat) (ls st : List z_V) (L : z_L) (M : z_M) (k : Nat) (n : Int) : Option z_S := match z_ld ls k 0 with
  | some v => match z_st ls k (0, z_w (v.2 + n)) with
    | some ls => some (pc + c.2.1, ls, st, L, M)
    | none => none
  | none => none
def z_u1 (t : Nat) (st : List z_V) (f : Int → z_V) : Option (List z_V) := match st with
  | v :: r => if v.1 = t then some (f v.2 :: r) else none
  | [] => none
def z_b2 (t u : Nat) (st : List z_V) (f : Int → Int → z_V) : Option (List z_V) := match st with
  | y :: x :: r => if y.1 = t ∧ x.1 = u then some (f x.2 y.2 :: r) else none
  | _ => none
def z_dv (st : List z_V) (f : Int → Int → z_V) : Option (List z_V) := match st with
  | y :: x :: r => if (y.1 = 0 ∧ x.1 = 0) ∧ ¬ y.2 = 0 then some (f x.2 y.2 :: r) else none
  | _ => none
def z_dup (st : List z_V) : Option (List z_V) := match st with
  | v :: r => if v.1 = 1 then none else some (v :: v :: r)
  | [] => none
def z_dup2 (st : List z_V) : Option (List z_V) := match st with
  | v :: u :: r => if v.1 = 1 ∨ u.1 = 1 then none else some (v :: u :: v :: u :: r)
  | _ => none
def z_pp (st : List z_V) : Option (List z_V) := match st with
  | v :: r => if v.1 = 1 then none else some r
  | [] => none
def z_tg (pc : Nat) (off : Int) : Nat := ((pc : Int) + off).toNat
def z_cnd (k : Jvm.ClassFile.Cond) (x y : Int) : Prop := match k with
  | .eq => x = y
  | .ne => x ≠ y
  | .lt => x < y
  | .ge => y ≤ x
  | .gt => y < x
  | .le => x ≤ y
def z_cnb (k : Jvm.ClassFile.Cond) (x y : Int) : Bool := match k with
  | .eq => decide (x = y)
  | .ne => !decide (x = y)
  | .lt => decide (x < y)
  | .ge => decide (y ≤ x)
  | .gt => decide (y < x)
  | .le => decide (x ≤ y)
def z_if2 (c : z_C) (pc : Nat) (ls st : List z_V) (L : z_L) (M : z_M) (k : Jvm.ClassFile.Cond) (off : Int) : Option z_S := match st with
  | y :: x :: r => if y.1 = 0 ∧ x.1 = 0 then some (if z_cnb k x.2 y.2 then z_tg pc off else pc + c.2.1, ls, r, L, M) else none
  | _ => none
def z_if1 (c : z_C) (pc : Nat) (ls st : List z_V) (L : z_L) (M : z_M) (k : Jvm.ClassFile.Cond) (off : Int) : Option z_S := match st with
  | x :: r => if x.1 = 0 then some (if z_cnb k x.2 0 then z_tg pc off else pc + c.2.1, ls, r, L, M) else none
  | [] => none
def z_tsw (lo hi d : Int) (os : Array Int) (x : Int) : Int := if x < lo ∨ hi < x then d else os.toList.getD (x - lo).toNat d
def z_lsw (d : Int) (ps : List (Int × Int)) (x : Int) : Int := match ps with
  | [] => d
  | p :: r => if x = p.1 then p.2 else z_lsw d r x
def z_sw (pc : Nat) (ls st : List z_V) (L : z_L) (M : z_M) (f : Int → Int) : Option z_S := match st with
  | x :: r => if x.1 = 0 then some (z_tg pc (f x.2), ls, r, L, M) else none
  | [] => none
def z_ftt : List (List Nat) := [[2, 2, 2, 2, 0, 0, 0, 0, 0], [2, 2, 2, 2, 2, 2, 2, 2, 2, 2, 0, 0, 0, 0, 0, 0, 0, 0, 0, 0], [2, 2, 2, 2, 2, 0, 0, 0], [2, 2, 2, 2, 0, 0, 2], [2, 0, 0], [2, 0, 0, 2, 0, 0, 0], [2, 2, 2, 2, 2, 2, 0, 0], [2, 2, 0, 0, 0, 0, 1, 0], [2, 2, 2, 2, 0], [2, 2, 2, 2, 2, 2, 2, 2, 2, 2, 2, 2, 0, 0], [2, 0, 0, 0, 0, 0, 0, 0, 0, 1, 2, 2, 2, 2, 2, 2, 2, 0, 0, 0, 0, 0, 0, 0, 2, 2, 2, 2, 2, 2, 2, 2, 2, 2, 2, 2, 0, 0, 0, 0, 0, 0, 0, 0, 0, 0, 0, 0, 0, 0, 0, 0, 0, 0, 0, 0, 0, 0, 0, 0, 2, 2, 2, 2, 0, 0, 2, 2, 0, 2, 2, 2, 2, 2, 2, 2, 0, 0, 2, 2, 2]]
def z_fbt : List (List Nat) := [[0, 0, 0, 0, 0, 0, 0, 0, 0], [0, 0, 0, 0, 0, 0, 0, 0, 0, 0, 0, 0, 0, 0, 0, 0, 0, 0, 0, 0], [0, 0, 0, 0, 0, 0, 0, 0], [0, 0, 0, 0, 0, 0, 0], [0, 0, 0], [0, 0, 0, 0, 0, 0, 0], [0, 0, 0, 0, 0, 0, 0, 0], [0, 0, 0, 0, 0, 0, 0, 0], [0, 0, 0, 0, 0], [0, 0, 0, 0, 0, 0, 0, 0, 0, 0, 0, 0, 0, 0], [0, 0, 0, 0, 0, 0, 0, 0, 0, 0, 0, 0, 0, 0, 0, 0, 0, 0, 0, 0, 0, 0, 0, 0, 0, 0, 0, 0, 0, 0, 0, 0, 0, 0, 0, 0, 0, 0, 0, 0, 0, 0, 0, 0, 0, 0, 0, 0, 0, 0, 0, 0, 0, 1, 1, 1, 1, 1, 1, 1, 0, 0, 0, 0, 0, 0, 0, 0, 0, 0, 0, 0, 0, 0, 0, 0, 0, 0, 0, 0, 0]]
def z_ft (ci k : Nat) : Nat := (z_ftt.getD ci []).getD k 9
def z_nf (ci : Nat) : Nat := (z_ftt.getD ci []).length
/-- getfield -/
def z_gf (L : z_L) (M : z_M) (ci k : Nat) (st : List z_V) : Option (List z_V) := match st with
  | v :: r => if v.1 = 2 then
      if ci = 100 then (if v.2 = -2 ∨ v.2 = -3 then some ((if k = 0 then (2, v.2 - 2) else (0, 0)) :: r) else none)
      else match z_lay L v.2 with
      | some e => if e.1 = ci + 5 then some ((z_ft ci k, M v.2 k) :: r) else none
      | none => none
    else none
  | [] => none
/-- putfield: of a boolean 0 or 1 alone -/
def z_pf (L : z_L) (M : z_M) (ci k : Nat) (st : List z_V) : Option (List z_V × z_M) := match st with
  | x :: v :: r => if (v.1 = 2 ∧ x.1 = z_ft ci k) ∧ (x.1 = 2 → 0 ≤ x.2) ∧ ((z_fbt.getD ci []).getD k 0 = 1 → x.2 = 0 ∨ x.2 = 1) then
      match z_lay L v.2 with
      | some e => if e.1 = ci + 5 then some (r, z_up M v.2 k x.2) else none
      | none => none
    else none
  | _ => none
/-- the texts' bytes, outside: -4 and -5 -/
def z_tx4 : List Int := [103, 111, 114, 103, 101, 32, 98, 121, 32, 103, 114, 101, 101, 110, 32, 103, 114, 97, 115, 115, 32, 102, 108, 111, 99, 107, 32, 98, 114, 105, 100, 101, 32, 103, 114, 111, 111, 109, 32, 97, 116, 32, 115, 105, 122, 101, 32, 119, 97, 110, 116, 115, 32, 102, 101, 117, 100, 32, 112, 117, 108, 108, 32, 114, 97, 105, 110, 32, 111, 102, 32, 101, 118, 101, 110, 105, 110, 103, 115, 32, 100, 114, 97, 119, 32, 111, 114, 32, 97, 110, 100, 32, 110, 111, 116, 32, 115, 97, 108, 116, 32, 111, 116, 104, 101, 114, 115, 32, 104, 111, 109, 101, 32, 104, 101, 114, 101, 32, 100, 97, 121, 32]
def z_tx5 : List Int := [59, 40, 41, 60, 62, 61, 43, 45, 42, 47, 37]
def z_xt (xs : List Int) (q : Int) : List Int := if q = -1 then xs else if q = -4 then z_tx4 else if q = -5 then z_tx5 else []
/-- an array's load; kind j -/
def z_al (xs : List Int) (L : z_L) (M : z_M) (t : Nat) (ok : Nat → Bool) (st : List z_V) : Option (List z_V) := match st with
  | i :: v :: r => if i.1 = 0 ∧ v.1 = 2 then
      if v.2 < 0 then (if ok (if v.2 = -1 then 0 else 2) ∧ 0 ≤ i.2 then match (z_xt xs v.2)[i.2.toNat]? with
          | some x => some ((0, x) :: r)
          | none => none
        else none)
      else match z_lay L v.2 with
      | some e => if ok e.1 ∧ 0 ≤ i.2 ∧ i.2 < e.2 then some ((t, M v.2 i.2) :: r) else none
      | none => none
    else none
  | _ => none
/-- an array's store -/
def z_as (L : z_L) (M : z_M) (t : Nat) (ok : Nat → Bool) (f : Nat → Int → Int) (st : List z_V) : Option (List z_V × z_M) := match st with
  | x :: i :: v :: r => if x.1 = t ∧ i.1 = 0 ∧ v.1 = 2 then
      match z_lay L v.2 with
      | some e => if ok e.1 ∧ 0 ≤ i.2 ∧ i.2 < e.2 then some (r, z_up M v.2 i.2 (f e.1 x.2)) else none
      | none => none
    else none
  | _ => none
/-- aastore: a Herds into a row of Herds -/
def z_aas (L : z_L) (M : z_M) (st : List z_V) : Option (List z_V × z_M) := match st with
  | x :: i :: v :: r => if x.1 = 2 ∧ i.1 = 0 ∧ v.1 = 2 then
      match z_lay L v.2, z_lay L x.2 with
      | some e, some g => if (e.1 = 4 ∧ g.1 = 7) ∧ 0 ≤ i.2 ∧ i.2 < e.2 then some (r, z_up M v.2 i.2 x.2) else none
      | _, _ => none
    else none
  | _ => none
def z_len (xs : List Int) (L : z_L) (st : List z_V) : Option (List z_V) := match st with
  | v :: r => if v.1 = 2 then
      if v.2 < 0 then (if v.2 = -1 ∨ v.2 = -4 ∨ v.2 = -5 then some ((0, ((z_xt xs v.2).length : Int)) :: r) else none)
      else match z_lay L v.2 with
      | some e => if e.1 < 5 then some ((0, (e.2 : Int)) :: r) else none
      | none => none
    else none
  | [] => none
def z_mem (c : z_C) (pc : Nat) (ls : List z_V) (x : Option (List z_V × z_M)) (L : z_L) : Option z_S := match x with
  | some y => some (pc + c.2.1, ls, y.1, L, y.2)
  | none => none
/-- new, newarray -/
def z_new (c : z_C) (pc : Nat) (ls st : List z_V) (L : z_L) (M : z_M) (e : Nat × Nat) : Option z_S :=
  some (pc + c.2.1, ls, (2, (L.length : Int) + 1) :: st, L ++ [e], z_clr M ((L.length : Int) + 1))
def z_nwa (c : z_C) (pc : Nat) (ls st : List z_V) (L : z_L) (M : z_M) (k : Option Nat) : Option z_S := match st, k with
  | n :: r, some k => if n.1 = 0 ∧ 0 ≤ n.2 ∧ n.2 ≤ 5000 then z_new c pc ls r L M (k, n.2.toNat) else none
  | _, _ => none
def z_atk (t : Jvm.ClassFile.ArrayType) : Option Nat := match t with
  | .int => some 0
  | .long => some 1
  | .byte => some 2
  | .boolean => some 3
  | _ => none
/-- the calls that are not walked: 2000 Object(), 2001 max, 2002 min, 2003 abs, 2004 arraycopy of ints -/
def z_cat (st : List z_V) : Nat := (st.map fun v => if v.1 = 1 then 2 else 1).sum
def z_nat (L : z_L) (M : z_M) (a : Nat) (st : List z_V) : Option (List z_V × z_M) :=
  if 16 < z_cat st then none else if a = 2000 then (match st with
    | v :: r => if v.1 = 2 ∧ 0 < v.2 then some (r, M) else none
    | [] => none)
  else if a = 2001 then (match z_b2 0 0 st (fun x y => (0, if x < y then y else x)) with
    | some r => some (r, M)
    | none => none)
  else if a = 2002 then (match z_b2 0 0 st (fun x y => (0, if y < x then y else x)) with
    | some r => some (r, M)
    | none => none)
  else if a = 2003 then (match z_u1 0 st (fun x => (0, if x < 0 then z_w (-x) else x)) with
    | some r => some (r, M)
    | none => none)
  else if a = 2004 then (match st with
    | n :: d :: q1 :: s :: q0 :: r => if (n.1 = 0 ∧ d.1 = 0 ∧ s.1 = 0 ∧ q1.1 = 2 ∧ q0.1 = 2) ∧ r = [] then
        match z_lay L q0.2, z_lay L q1.2 with
        | some e0, some e1 => if (e0.1 = 0 ∧ e1.1 = 0) ∧ (0 ≤ n.2 ∧ 0 ≤ d.2 ∧ 0 ≤ s.2) ∧ s.2 + n.2 ≤ e0.2 ∧ d.2 + n.2 ≤ e1.2 then some (r, z_cpy M q0.2 s.2 q1.2 d.2 n.2) else none
        | _, _ => none
      else none
    | _ => none)
  else none
/-- a long constant, an int constant, a text -/
def z_ldc (a b : Nat) : z_V := if b = 0 then (0, (a : Int)) else if b = 1 then (0, -(a : Int)) else (2, -(a : Int))
/-- one instruction that is no call and no return -/
def z_step (xs : List Int) (c : z_C) (pc : Nat) (ls st : List z_V) (L : z_L) (M : z_M) : Option z_S := match c.1 with
  | .iconst n => z_psh c pc ls st L M (some (0, n))
  | .bipush n => z_psh c pc ls st L M (some (0, n))
  | .sipush n => z_psh c pc ls st L M (some (0, n))
  | .lconst n => z_psh c pc ls st L M (some (1, ((n : Nat) : Int)))
  | .ldc _ => z_psh c pc ls st L M (some (z_ldc c.2.2.1 c.2.2.2))
  | .ldc_w _ => z_psh c pc ls st L M (some (z_ldc c.2.2.1 c.2.2.2))
  | .ldc2_w _ => z_psh c pc ls st L M (some (1, (c.2.2.1 : Int)))
  | .iload k => z_psh c pc ls st L M (z_ld ls k 0)
  | .iload_n k => z_psh c pc ls st L M (z_ld ls k 0)
  | .lload k => z_psh c pc ls st L M (z_ld ls k 1)
  | .lload_n k => z_psh c pc ls st L M (z_ld ls k 1)
  | .aload k => z_psh c pc ls st L M (z_ld ls k 2)
  | .aload_n k => z_psh c pc ls st L M (z_ld ls k 2)
  | .istore k => z_pop 0 c pc ls st L M k
  | .istore_n k => z_pop 0 c pc ls st L M k
  | .lstore k => z_pop 1 c pc ls st L M k
  | .lstore_n k => z_pop 1 c pc ls st L M k
  | .astore k => z_pop 2 c pc ls st L M k
  | .astore_n k => z_pop 2 c pc ls st L M k
  | .iinc k n => z_inc c pc ls st L M k n
  | .iadd => z_stk c pc ls (z_b2 0 0 st (fun x y => (0, z_w (x + y)))) L M
  | .isub => z_stk c pc ls (z_b2 0 0 st (fun x y => (0, z_w (x - y)))) L M
  | .imul => z_stk c pc ls (z_b2 0 0 st (fun x y => (0, z_w (x * y)))) L M
  | .iand => z_stk c pc ls (z_b2 0 0 st (fun x y => (0, z_and x y))) L M
  | .ior => z_stk c pc ls (z_b2 0 0 st (fun x y => (0, z_or x y))) L M
  | .ixor => z_stk c pc ls (z_b2 0 0 st (fun x y => (0, z_xor x y))) L M
  | .ishl => z_stk c pc ls (z_b2 0 0 st (fun x y => (0, z_shl x y))) L M
  | .ishr => z_stk c pc ls (z_b2 0 0 st (fun x y => (0, z_shr x y))) L M
  | .iushr => z_stk c pc ls (z_b2 0 0 st (fun x y => (0, z_ushr x y))) L M
  | .idiv => z_stk c pc ls (z_dv st (fun x y => (0, z_div x y))) L M
  | .irem => z_stk c pc ls (z_dv st (fun x y => (0, z_rem x y))) L M
  | .ineg => z_stk c pc ls (z_u1 0 st (fun x => (0, z_w (-x)))) L M
  | .i2b => z_stk c pc ls (z_u1 0 st (fun x => (0, z_i2b x))) L M
  | .i2c => z_stk c pc ls (z_u1 0 st (fun x => (0, z_i2c x))) L M
  | .i2l => z_stk c pc ls (z_u1 0 st (fun x => (1, x))) L M
  | .ladd => z_stk c pc ls (z_b2 1 1 st (fun x y => (1, z_wl (x + y)))) L M
  | .lsub => z_stk c pc ls (z_b2 1 1 st (fun x y => (1, z_wl (x - y)))) L M
  | .lmul => z_stk c pc ls (z_b2 1 1 st (fun x y => (1, z_wl (x * y)))) L M
  | .lor => z_stk c pc ls (z_b2 1 1 st (fun x y => (1, z_lor x y))) L M
  | .lshl => z_stk c pc ls (z_b2 0 1 st (fun x y => (1, z_lshl x y))) L M
  | .lcmp => z_stk c pc ls (z_b2 1 1 st (fun x y => (0, z_lcmp x y))) L M
  | .dup => z_stk c pc ls (z_dup st) L M
  | .dup2 => z_stk c pc ls (z_dup2 st) L M
  | .pop => z_stk c pc ls (z_pp st) L M
  | .goto off => some (z_tg pc off, ls, st, L, M)
  | .if_icmp k off => z_if2 c pc ls st L M k off
  | .ifCond k off => z_if1 c pc ls st L M k off
  | .tableswitch d lo hi os => z_sw pc ls st L M (z_tsw lo hi d os)
  | .lookupswitch d ps => z_sw pc ls st L M (z_lsw d ps.toList)
  | .getfield _ => z_stk c pc ls (z_gf L M c.2.2.1 c.2.2.2 st) L M
  | .getstatic _ => if c.2.2.1 = 1 then z_psh c pc ls st L M (some (0, 1)) else if c.2.2.1 = 2 then z_psh c pc ls st L M (some (2, -6)) else none
  | .putfield _ => z_mem c pc ls (z_pf L M c.2.2.1 c.2.2.2 st) L
  | .iaload => z_stk c pc ls (z_al xs L M 0 (fun k => k == 0) st) L M
  | .laload => z_stk c pc ls (z_al xs L M 1 (fun k => k == 1) st) L M
  | .baload => z_stk c pc ls (z_al xs L M 0 (fun k => k == 2 || k == 3) st) L M
  | .aaload => z_stk c pc ls (z_al xs L M 2 (fun k => k == 4) st) L M
  | .iastore => z_mem c pc ls (z_as L M 0 (fun k => k == 0) (fun _ x => x) st) L
  | .lastore => z_mem c pc ls (z_as L M 1 (fun k => k == 1) (fun _ x => x) st) L
  | .bastore => z_mem c pc ls (z_as L M 0 (fun k => k == 2 || k == 3) (fun k x => if k = 2 then z_i2b x else z_and x 1) st) L
  | .aastore => z_mem c pc ls (z_aas L M st) L
  | .arraylength => z_stk c pc ls (z_len xs L st) L M
  | .new _ => z_new c pc ls st L M (c.2.2.1 + 5, z_nf c.2.2.1)
  | .newarray t => z_nwa c pc ls st L M (z_atk t)
  | .anewarray _ => z_nwa c pc ls st L M (some 4)
  | .invokespecial _ => z_mem c pc ls (z_nat L M c.2.2.1 st) L
  | .invokestatic _ => z_mem c pc ls (z_nat L M c.2.2.1 st) L
  | _ => none
def z_at (μ : z_D) (pc : Nat) : Option z_C := match μ.1[pc]? with
  | some (some c) => some c
  | _ => none
def z_go (xs : List Int) (μ : z_D) (pc : Nat) (ls st : List z_V) (L : z_L) (M : z_M) : Option z_S := match z_at μ pc with
  | some c => z_step xs c pc ls st L M
  | none => none
/-- a return: what is answered -/
def z_rok (rk : Nat) (x : Int) : Bool := match rk with
  | 0 => true
  | 4 => x == 0 || x == 1
  | 5 => decide (0 ≤ x ∧ x < 65536)
  | 6 => decide (-128 ≤ x ∧ x < 128)
  | _ => false
def z_ret (rk : Nat) (c : z_C) (st : List z_V) : Option (Option z_V) := match c.1 with
  | .ireturn => (match st with
    | [v] => if v.1 = 0 ∧ z_rok rk v.2 = true then some (some v) else none
    | _ => none)
  | .lreturn => (match st with
    | [v] => if v.1 = 1 ∧ rk = 1 then some (some v) else none
    | _ => none)
  | .areturn => (match st with
    | [v] => if v.1 = 2 ∧ rk = 2 ∧ 0 < v.2 then some (some v) else none
    | _ => none)
  | .return_ => (match st with
    | [] => if rk = 3 then some none else none
    | _ => none)
  | _ => none
def z_isc (c : z_C) : Bool := match c.1 with
  | .invokevirtual _ => c.2.2.1 < 2000
  | .invokespecial _ => c.2.2.1 < 2000
  | .invokestatic _ => c.2.2.1 < 2000
  | _ => false
/-- the receiver: an object of the method's class; a text -/
def z_rcv (L : z_L) (rc : Nat) (as : List z_V) : Bool := if rc = 200 then true else match as with
  | v :: _ => if rc = 120 then (v.2 == -2 || v.2 == -3) else (match z_lay L v.2 with
    | some e => e.1 == rc + 5
    | none => false)
  | [] => false
def z_args (L : z_L) (μ : z_D) (st : List z_V) : Option (List z_V × List z_V) :=
  let n := μ.2.2.1.length
  let as := (st.take n).reverse
  if (as.map fun v => v.1) = μ.2.2.1 ∧ z_cat (st.drop n) ≤ 8 ∧ z_rcv L μ.2.2.2.2.1 as = true then some (as, st.drop n) else none
def z_exp : List z_V → List z_V
  | [] => []
  | v :: r => if v.1 = 1 then v :: (3, 0) :: z_exp r else v :: z_exp r
def z_ent (μ : z_D) (as : List z_V) : List z_V := z_exp as ++ List.replicate (μ.2.1 - (z_exp as).length) (3, 0)
def z_ol (v : Option z_V) : List z_V := match v with
  | some v => [v]
  | none => []
def z_ev (xs : List Int) : Nat → Nat → z_D → Nat → List z_V → List z_V → z_L → z_M → Option (Option z_V × z_L × z_M)
  | 0, _, _, _, _, _, _, _ => none
  | n + 1, d, μ, pc, ls, st, L, M => match z_at μ pc with
    | none => none
    | some c => match z_ret μ.2.2.2.1 c st with
      | some r => some (r, L, M)
      | none => if z_isc c = true then (match d with
          | 0 => none
          | d' + 1 => match z_ms[c.2.2.1]? with
            | none => none
            | some ν => match z_args L ν st with
              | none => none
              | some ar => match z_ev xs n d' ν 0 (z_ent ν ar.1) [] L M with
                | none => none
                | some o => z_ev xs n (d' + 1) μ (pc + c.2.1) ls (z_ol o.1 ++ ar.2) o.2.1 o.2.2)
        else match z_step xs c pc ls st L M with
          | none => none
          | some s => z_ev xs n d μ s.1 s.2.1 s.2.2.1 s.2.2.2.1 s.2.2.2.2
